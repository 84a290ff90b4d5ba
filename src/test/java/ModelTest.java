import java.util.function.LongSupplier;

/** All promises: long runs of mixed calls, each answer and each digest compared with those of the plain model. */
public final class ModelTest {
    private static final int RUNS = 1500;
    private static final int CALLS = 512;
    private static final String WRONG = "rwks=;0123456789x~";
    private static final Checks CHECK = new Checks();

    private static long seed;
    private static SiblingJoins x;
    private static Model model;
    private static String pending;
    private static int keysUsed;
    private static int wrongOf;

    public static void main(String[] args) {
        for (int run = 1; run <= RUNS && !CHECK.failed(); run++) {
            run(run);
        }
        CHECK.finish();
    }

    private static void run(int number) {
        seed = number;
        x = new SiblingJoins();
        model = new Model();
        pending = "";
        keysUsed = 1 + below(3);
        wrongOf = number % 3 == 0 ? 8 : 200;
        for (int call = 1; call <= CALLS && !CHECK.failed(); call++) {
            String where = "run " + number + ", call " + call + ": ";
            step(where);
            CHECK.equal(where + "digest", model.digest(), x.digest());
        }
        for (int i = 0; i < 7 && !CHECK.failed(); i++) {
            both("run " + number + ": undo", x::undo, model::undo);
            CHECK.equal("run " + number + ": digest after undo", model.digest(), x.digest());
        }
    }

    /** The same numbers in every run of the tests. */
    private static int below(int bound) {
        seed = seed * 6364136223846793005L + 1442695040888963407L;
        return (int) ((seed >>> 33) % bound);
    }

    /** Mostly 0 to most, now and then what lies outside. */
    private static int upTo(int most) {
        if (below(wrongOf) != 0) {
            return below(most + 1);
        }
        int[] outside = {-1, most + 1, Integer.MIN_VALUE, Integer.MAX_VALUE, 1000, -7};
        return outside[below(outside.length)];
    }

    private static int someKey() {
        return below(wrongOf) == 0 ? upTo(2) : below(keysUsed);
    }

    private static void both(String call, LongSupplier got, LongSupplier due) {
        CHECK.equal(call, answer(due), answer(got));
    }

    private static String answer(LongSupplier call) {
        try {
            return Long.toString(call.getAsLong());
        } catch (RuntimeException e) {
            return e.getClass().getName();
        }
    }

    private static void step(String where) {
        if (!pending.isEmpty()) {
            int code = pending.charAt(0);
            pending = pending.substring(1);
            both(where + "append " + code, () -> x.append(code), () -> model.append(code));
            return;
        }
        int kind = below(100);
        if (kind < 70) {
            change(where, kind);
        } else if (kind < 84) {
            text(where, kind);
        } else {
            look(where, kind);
        }
    }

    private static void change(String where, int kind) {
        int writer = upTo(4);
        int key = someKey();
        int store = upTo(2);
        int other = upTo(2);
        int value = upTo(99);
        int rule = upTo(3);
        String tail = writer + " " + key + " " + store + " " + other + " " + value + " " + rule;
        if (kind < 12) {
            both(where + "read " + tail, () -> x.read(writer, key, store), () -> model.read(writer, key, store));
        } else if (kind < 34) {
            both(where + "write " + tail, () -> x.write(writer, key, store, value),
                () -> model.write(writer, key, store, value));
        } else if (kind < 48) {
            both(where + "pull " + tail, () -> x.pull(store, other, key), () -> model.pull(store, other, key));
        } else if (kind < 51) {
            both(where + "join " + tail, () -> x.join(writer, key, store, rule),
                () -> model.join(writer, key, store, rule));
        } else if (kind < 56) {
            both(where + "lose " + tail, () -> x.lose(writer, key), () -> model.lose(writer, key));
        } else if (kind < 61) {
            both(where + "forget " + tail, () -> x.forget(writer, key), () -> model.forget(writer, key));
        } else if (kind < 64) {
            both(where + "pullAll", x::pullAll, model::pullAll);
        } else {
            both(where + "undo", x::undo, model::undo);
        }
    }

    private static void text(String where, int kind) {
        if (kind < 73) {
            pending = someText();
        } else if (kind < 78) {
            both(where + "firstError", x::firstError, model::firstError);
        } else if (kind < 81) {
            both(where + "clearBuffer", x::clearBuffer, model::clearBuffer);
        } else {
            both(where + "runAll", x::runAll, model::runAll);
        }
    }

    private static String someText() {
        StringBuilder text = new StringBuilder();
        int parts = 1 + below(5);
        for (int i = 0; i < parts; i++) {
            boolean writing = below(3) > 0;
            text.append(i == 0 && below(4) > 0 ? "" : ";").append(writing ? 'w' : 'r').append(below(5));
            text.append('k').append(below(keysUsed)).append('s').append(below(3));
            text.append(writing ? "=" + below(below(2) == 0 ? 10 : 100) : "");
        }
        if (below(4) == 0) {
            text.setCharAt(below(text.length()), WRONG.charAt(below(WRONG.length())));
        }
        if (below(5) == 0) {
            text.setLength(below(text.length()));
        }
        return text.toString();
    }

    private static void look(String where, int kind) {
        int writer = upTo(4);
        int key = someKey();
        int store = upTo(2);
        int other = upTo(kind % 2 == 0 ? 2 : 4);
        int what = upTo(7);
        String tail = writer + " " + key + " " + store + " " + other + " " + what;
        if (kind < 87) {
            both(where + "sibling " + tail, () -> x.sibling(store, key, other, what),
                () -> model.sibling(store, key, other, what));
        } else if (kind < 89) {
            both(where + "vector " + tail, () -> x.vector(store, key, writer), () -> model.vector(store, key, writer));
            both(where + "knows " + tail, () -> x.knows(writer, key, other), () -> model.knows(writer, key, other));
        } else if (kind < 92) {
            both(where + "key " + tail, () -> x.key(key, what), () -> model.key(key, what));
            both(where + "count " + tail, () -> x.count(what), () -> model.count(what));
        } else if (kind < 95) {
            both(where + "ifWritten " + tail, () -> x.ifWritten(writer, key, store, what),
                () -> model.ifWritten(writer, key, store, what));
        } else if (kind < 98) {
            both(where + "ifPulled " + tail, () -> x.ifPulled(store, other, key, what),
                () -> model.ifPulled(store, other, key, what));
        } else {
            both(where + "whyNot " + tail, () -> x.whyNot(writer, key), () -> model.whyNot(writer, key));
            CHECK.equal(where + "agreement", model.agreement(), x.agreement());
        }
    }
}
