import java.util.ArrayList;
import java.util.List;

/** Compares answers with the ones that are due, and tells at the end whether all were right. */
final class Checks {
    private static final int SHOWN = 20;
    private final List<String> wrong = new ArrayList<>();
    private int made = 0;

    void equal(String what, long due, long got) {
        tell(due == got, what + " answered " + got + ", due is " + due);
    }

    void equal(String what, double due, double got) {
        tell(due == got, what + " answered " + got + ", due is " + due);
    }

    void equal(String what, String due, String got) {
        tell(due.equals(got), what + " answered " + got + ", due is " + due);
    }

    /** The call throws exactly this exception (not one that the machine makes of it) and changes nothing. */
    void refuses(String what, Class<? extends RuntimeException> kind, SiblingJoins x, Runnable call) {
        long before = x.digest();
        String got = "nothing";
        try {
            call.run();
        } catch (RuntimeException e) {
            got = e.getClass().getName();
        }
        equal(what + " throws", kind.getName(), got);
        equal(what + " leaves the digest", before, x.digest());
    }

    void noIndex(String what, SiblingJoins x, Runnable call) {
        refuses(what, IndexOutOfBoundsException.class, x, call);
    }

    void noArgument(String what, SiblingJoins x, Runnable call) {
        refuses(what, IllegalArgumentException.class, x, call);
    }

    void noState(String what, SiblingJoins x, Runnable call) {
        refuses(what, IllegalStateException.class, x, call);
    }

    void tell(boolean right, String otherwise) {
        made++;
        if (!right) {
            wrong.add(otherwise);
        }
    }

    boolean failed() {
        return !wrong.isEmpty();
    }

    void finish() {
        for (int i = 0; i < wrong.size() && i < SHOWN; i++) {
            System.out.println(wrong.get(i));
        }
        System.out.println(made + " checks, " + wrong.size() + " wrong");
        if (failed()) {
            System.exit(1);
        }
    }

    /** A sibling as "writer:number=value". */
    static String siblings(SiblingJoins x, int store, int key) {
        StringBuilder text = new StringBuilder();
        for (int place = 0; place < 4 && x.sibling(store, key, place, 0) != SiblingJoins.NONE; place++) {
            text.append(place == 0 ? "" : " ");
            text.append(x.sibling(store, key, place, 0)).append(':').append(x.sibling(store, key, place, 1));
            text.append('=').append(x.sibling(store, key, place, 2));
        }
        return text.toString();
    }

    static String vector(SiblingJoins x, int store, int key) {
        StringBuilder text = new StringBuilder();
        for (int writer = 0; writer < 5; writer++) {
            text.append(writer == 0 ? "" : " ").append(x.vector(store, key, writer));
        }
        return text.toString();
    }

    static String knowledge(SiblingJoins x, int writer, int key) {
        StringBuilder text = new StringBuilder();
        for (int other = 0; other < 5; other++) {
            text.append(other == 0 ? "" : " ").append(x.knows(writer, key, other));
        }
        return text.toString();
    }

    static void type(SiblingJoins x, String text) {
        for (int i = 0; i < text.length(); i++) {
            x.append(text.charAt(i));
        }
    }
}
