import java.util.ArrayList;
import java.util.List;

/**
 * "A call that throws an exception changes nothing. If several exceptions apply, the one that is named first in the
 * throws clause is thrown": every call, with every mixture of arguments inside, just outside and far outside their
 * bounds, on an empty object, on one whose stores are crowded and on a full one. What is due stands in a table of
 * its own here. "Nothing" is all that can be told of the object and of each state that it has saved.
 */
public final class RefusalsTest {
    private static final Checks CHECK = new Checks();
    private static final String INDEX = IndexOutOfBoundsException.class.getName();
    private static final String ARGUMENT = IllegalArgumentException.class.getName();
    private static final String STATE = IllegalStateException.class.getName();
    private static final String NOTHING = "nothing";

    private enum Start { EMPTY, CROWDED, FULL }

    /** What a call leaves behind if it does not throw. */
    private enum Effect { LOOKS, SAVES, OTHER }

    /** A call of the face. Of its kinds, i is an index (IndexOutOfBounds), a another argument (IllegalArgument). */
    private abstract static class Call {
        final String name;
        final Effect effect;
        final String kinds;
        final int[] most;

        Call(String name, Effect effect, String kinds, int... most) {
            this.name = name;
            this.effect = effect;
            this.kinds = kinds;
            this.most = most;
        }

        abstract void on(SiblingJoins x, int[] a);

        int least() {
            return 0;
        }

        boolean unfit(Start start, int[] a) {
            return false;
        }

        boolean refused(Start start, int[] a) {
            return false;
        }

        private boolean outside(char kind, int[] a) {
            for (int i = 0; i < a.length; i++) {
                if (kinds.charAt(i) == kind && (a[i] < least() || a[i] > most[i])) {
                    return true;
                }
            }
            return false;
        }

        String due(Start start, int[] a) {
            if (outside('i', a)) {
                return INDEX;
            }
            if (outside('a', a) || unfit(start, a)) {
                return ARGUMENT;
            }
            return refused(start, a) ? STATE : NOTHING;
        }
    }

    private static SiblingJoins make(Start start) {
        switch (start) {
            case EMPTY: return new SiblingJoins();
            case CROWDED: return Made.crowded();
            default: return Made.full();
        }
    }

    public static void main(String[] args) {
        startsAreAsTheTableSays();
        List<Call> calls = new ArrayList<>();
        addWriting(calls);
        addForgetting(calls);
        addTexts(calls);
        addLooks(calls);
        addWhatWouldBe(calls);
        for (Call call : calls) {
            for (Start start : Start.values()) {
                List<Long> before = Made.digestsOf(make(start));
                everyMixture(call, start, before, new int[call.most.length], 0);
            }
        }
        CHECK.equal("calls of the face", 22, calls.size());
        CHECK.finish();
    }

    private static void startsAreAsTheTableSays() {
        int[] siblings = {0, 15, 36};
        int[] saved = {0, 5, 6};
        int[] characters = {0, 7, 60};
        for (Start start : Start.values()) {
            SiblingJoins x = make(start);
            CHECK.equal(start + " siblings", siblings[start.ordinal()], x.count(0));
            CHECK.equal(start + " saved states", saved[start.ordinal()], x.count(7));
            CHECK.equal(start + " characters", characters[start.ordinal()], x.clearBuffer());
        }
    }

    private static void everyMixture(Call call, Start start, List<Long> before, int[] a, int at) {
        if (at == a.length) {
            tryOut(call, start, before, a);
            return;
        }
        for (int value : valuesFor(call.least(), call.most[at])) {
            a[at] = value;
            everyMixture(call, start, before, a, at + 1);
        }
    }

    /** All that is allowed if it is not much, and what lies just outside and far outside. */
    private static List<Integer> valuesFor(int least, int most) {
        List<Integer> values = new ArrayList<>(List.of(Integer.MIN_VALUE, least - 1, most + 1, Integer.MAX_VALUE));
        if (most - least > 8) {
            values.addAll(List.of(least, most));
            return values;
        }
        for (int value = least; value <= most; value++) {
            values.add(value);
        }
        return values;
    }

    private static void tryOut(Call call, Start start, List<Long> before, int[] a) {
        StringBuilder where = new StringBuilder(start + ": " + call.name);
        for (int number : a) {
            where.append(' ').append(number);
        }
        SiblingJoins x = make(start);
        String got = NOTHING;
        try {
            call.on(x, a);
        } catch (RuntimeException e) {
            got = e.getClass().getName();
        }
        CHECK.equal(where + " throws", call.due(start, a), got);
        boolean still = !got.equals(NOTHING) || call.effect == Effect.LOOKS;
        if (still) {
            CHECK.tell(before.equals(Made.digestsOf(x)), where + " changed something");
        } else if (call.effect == Effect.SAVES) {
            savedAhead(where, before, x);
        }
    }

    /** With six states saved ahead, one is dropped, so that only their number is told. */
    private static void savedAhead(StringBuilder where, List<Long> before, SiblingJoins x) {
        int ahead = before.size() - 1;
        CHECK.equal(where + " saves", Math.min(6, ahead + 1), x.count(7));
        if (ahead < 6) {
            List<Long> after = Made.digestsOf(x);
            CHECK.tell(before.equals(after.subList(1, after.size())), where + " cannot be undone");
        }
    }

    private static void addWriting(List<Call> calls) {
        calls.add(new Call("read", Effect.SAVES, "iii", 4, 2, 2) {
            @Override void on(SiblingJoins x, int[] a) {
                x.read(a[0], a[1], a[2]);
            }
        });
        calls.add(new Call("write", Effect.SAVES, "iiia", 4, 2, 2, 99) {
            @Override void on(SiblingJoins x, int[] a) {
                x.write(a[0], a[1], a[2], a[3]);
            }

            @Override boolean refused(Start start, int[] a) {
                return a[0] == 4 && (start == Start.FULL || start == Start.CROWDED && a[2] == 0);
            }
        });
        calls.add(new Call("pull", Effect.SAVES, "iii", 2, 2, 2) {
            @Override void on(SiblingJoins x, int[] a) {
                x.pull(a[0], a[1], a[2]);
            }

            @Override boolean unfit(Start start, int[] a) {
                return a[0] == a[1];
            }

            @Override boolean refused(Start start, int[] a) {
                return start == Start.CROWDED && a[0] + a[1] == 1;
            }
        });
        calls.add(new Call("join", Effect.SAVES, "iiia", 4, 2, 2, 3) {
            @Override void on(SiblingJoins x, int[] a) {
                x.join(a[0], a[1], a[2], a[3]);
            }

            @Override boolean refused(Start start, int[] a) {
                return start == Start.EMPTY || start == Start.CROWDED && a[2] == 2;
            }
        });
    }

    private static void addForgetting(List<Call> calls) {
        calls.add(new Call("lose", Effect.SAVES, "ii", 4, 2) {
            @Override void on(SiblingJoins x, int[] a) {
                x.lose(a[0], a[1]);
            }
        });
        calls.add(new Call("forget", Effect.SAVES, "ii", 4, 2) {
            @Override void on(SiblingJoins x, int[] a) {
                x.forget(a[0], a[1]);
            }

            @Override boolean refused(Start start, int[] a) {
                return start == Start.CROWDED || start == Start.FULL && a[0] < 4;
            }
        });
        calls.add(new Call("pullAll", Effect.SAVES, "") {
            @Override void on(SiblingJoins x, int[] a) {
                x.pullAll();
            }

            @Override boolean refused(Start start, int[] a) {
                return start == Start.CROWDED;
            }
        });
    }

    private static void addTexts(List<Call> calls) {
        calls.add(new Call("append", Effect.OTHER, "a", 126) {
            @Override void on(SiblingJoins x, int[] a) {
                x.append(a[0]);
            }

            @Override int least() {
                return 33;
            }

            @Override boolean refused(Start start, int[] a) {
                return start == Start.FULL;
            }
        });
        calls.add(new Call("clearBuffer", Effect.OTHER, "") {
            @Override void on(SiblingJoins x, int[] a) {
                x.clearBuffer();
            }
        });
        calls.add(new Call("firstError", Effect.LOOKS, "") {
            @Override void on(SiblingJoins x, int[] a) {
                x.firstError();
            }
        });
        calls.add(new Call("runAll", Effect.OTHER, "") {
            @Override void on(SiblingJoins x, int[] a) {
                x.runAll();
            }

            @Override boolean unfit(Start start, int[] a) {
                return true;
            }
        });
        calls.add(new Call("undo", Effect.OTHER, "") {
            @Override void on(SiblingJoins x, int[] a) {
                x.undo();
            }

            @Override boolean refused(Start start, int[] a) {
                return start == Start.EMPTY;
            }
        });
    }

    private static void addLooks(List<Call> calls) {
        calls.add(new Call("sibling", Effect.LOOKS, "iiaa", 2, 2, 3, 4) {
            @Override void on(SiblingJoins x, int[] a) {
                x.sibling(a[0], a[1], a[2], a[3]);
            }
        });
        calls.add(new Call("vector", Effect.LOOKS, "iii", 2, 2, 4) {
            @Override void on(SiblingJoins x, int[] a) {
                x.vector(a[0], a[1], a[2]);
            }
        });
        calls.add(new Call("knows", Effect.LOOKS, "iii", 4, 2, 4) {
            @Override void on(SiblingJoins x, int[] a) {
                x.knows(a[0], a[1], a[2]);
            }
        });
        calls.add(new Call("key", Effect.LOOKS, "ia", 2, 7) {
            @Override void on(SiblingJoins x, int[] a) {
                x.key(a[0], a[1]);
            }
        });
        calls.add(new Call("count", Effect.LOOKS, "a", 7) {
            @Override void on(SiblingJoins x, int[] a) {
                x.count(a[0]);
            }
        });
    }

    private static void addWhatWouldBe(List<Call> calls) {
        calls.add(new Call("ifWritten", Effect.LOOKS, "iiia", 4, 2, 2, 1) {
            @Override void on(SiblingJoins x, int[] a) {
                x.ifWritten(a[0], a[1], a[2], a[3]);
            }
        });
        calls.add(new Call("ifPulled", Effect.LOOKS, "iiia", 2, 2, 2, 2) {
            @Override void on(SiblingJoins x, int[] a) {
                x.ifPulled(a[0], a[1], a[2], a[3]);
            }

            @Override boolean unfit(Start start, int[] a) {
                return a[0] == a[1];
            }
        });
        calls.add(new Call("whyNot", Effect.LOOKS, "ii", 4, 2) {
            @Override void on(SiblingJoins x, int[] a) {
                x.whyNot(a[0], a[1]);
            }
        });
        calls.add(new Call("agreement", Effect.LOOKS, "") {
            @Override void on(SiblingJoins x, int[] a) {
                x.agreement();
            }
        });
        calls.add(new Call("digest", Effect.LOOKS, "") {
            @Override void on(SiblingJoins x, int[] a) {
                x.digest();
            }
        });
    }
}
