/**
 * Promises 1 to 8 at their bounds: what a new object is, the least and the greatest answer of each call, and the
 * states in which it is refused or just not. (Their arguments stand in RefusalsTest.)
 */
public final class CallsBoundsTest {
    private static final Checks CHECK = new Checks();

    public static void main(String[] args) {
        newStoresAreEmpty();
        newTextsAreEmpty();
        newObjectsShareNothing();
        readAnswersHowManyThereAre();
        writeReplacesItsOwn();
        writeIsRefusedByAFifth();
        writeChangesNothingElse();
        pullAnswersHowManyAreDropped();
        pullDoesNotCountWhatStaysAway();
        joinNeedsASibling();
        joinIsNeverTooMuch();
        joinByOneOfTheSiblings();
        loseKeepsItsOwnNumber();
        loseOfNothing();
        loseIsNotForgetting();
        forgetAnswersHowOften();
        forgetIsForOneKey();
        pullAllOfNothing();
        pullAllInItsOrder();
        pullAllAddsUpAllKeys();
        pullAllIsRefusedInTheMidst();
        CHECK.finish();
    }

    /** "Creates empty stores": "at first 0", "at first all 0", "at first none" */
    private static void newStoresAreEmpty() {
        SiblingJoins x = new SiblingJoins();
        int[] ofAKey = {0, 0, 0, 0, 0, 1, 1, 0};
        for (int key = 0; key < 3; key++) {
            for (int what = 0; what <= 7; what++) {
                CHECK.equal("new key " + key + " what " + what, ofAKey[what], x.key(key, what));
            }
            for (int what = 0; what <= 2; what++) {
                CHECK.equal("nothing to pull", 0, x.ifPulled(what, (what + 1) % 3, key, what));
            }
            for (int place = 0; place < 60; place++) {
                CHECK.equal("no sibling", -1, x.sibling(place / 20, key, place / 5 % 4, place % 5));
            }
            for (int store = 0; store < 3; store++) {
                CHECK.equal("vector", "0 0 0 0 0", Checks.vector(x, store, key));
            }
            for (int writer = 0; writer < 5; writer++) {
                CHECK.equal("knowledge", "0 0 0 0 0", Checks.knowledge(x, writer, key));
                CHECK.equal("nothing to drop", 0, x.ifWritten(writer, key, writer / 2, 0));
                CHECK.equal("the first sibling", 1, x.ifWritten(writer, key, writer / 2, 1));
                CHECK.equal("can be forgotten", 0, x.whyNot(writer, key));
            }
        }
        for (int what = 0; what <= 7; what++) {
            CHECK.equal("new count " + what, 0, x.count(what));
        }
        CHECK.equal("all agree", 1.0, x.agreement());
        CHECK.equal("digest", DigestList.hash(DigestList.of(x, "")), x.digest());
    }

    /** "with an empty buffer" */
    private static void newTextsAreEmpty() {
        SiblingJoins x = new SiblingJoins();
        CHECK.equal("no error", 0, x.firstError());
        CHECK.noArgument("nothing to run", x, x::runAll);
        CHECK.noState("nothing to undo", x, x::undo);
        CHECK.equal("nothing to clear", 0, x.clearBuffer());
        CHECK.equal("the first character", 1, x.append('r'));
    }

    private static void newObjectsShareNothing() {
        SiblingJoins x = new SiblingJoins();
        SiblingJoins y = new SiblingJoins();
        long before = y.digest();
        x.write(0, 0, 0, 1);
        x.write(1, 2, 2, 2);
        Checks.type(x, "r0");
        CHECK.equal("another object stays", before, y.digest());
        y.write(3, 1, 1, 5);
        CHECK.equal("and the other way", "0:1=1", Checks.siblings(x, 0, 0));
        CHECK.equal("and nothing more", "", Checks.siblings(x, 1, 1));
        CHECK.equal("each has its own saved states", 0, y.undo());
        CHECK.equal("two of the other", 1, x.undo());
    }

    /** "Returns how many siblings there are." */
    private static void readAnswersHowManyThereAre() {
        for (int siblings = 0; siblings <= 4; siblings++) {
            SiblingJoins x = Made.some(siblings, 2, 1);
            CHECK.equal("read", siblings, x.read(4, 1, 2));
            CHECK.equal("again", siblings, x.read(4, 1, 2));
            CHECK.equal("by who wrote there", siblings, x.read(0, 1, 2));
            CHECK.equal("at another store", 0, x.read(4, 1, 0));
            CHECK.equal("of another key", 0, x.read(4, 2, 2));
            CHECK.equal("siblings stay", siblings, x.key(1, 2));
        }
    }

    /** "Returns how many siblings are dropped.": the writer's own one, if it has not read */
    private static void writeReplacesItsOwn() {
        for (int writer = 0; writer < 4; writer++) {
            SiblingJoins x = Made.four(0, 2);
            CHECK.equal("its own", 1, x.write(writer, 2, 0, 50));
            CHECK.equal("four stay", 4, x.key(2, 0));
            CHECK.equal("its place", 50, x.sibling(0, 2, writer, 2));
            CHECK.equal("nothing there", 0, x.write(writer, 2, 1, 60));
            CHECK.equal("all of them, after reading", 4, readThenWrite(x, writer));
            CHECK.equal("one stays", 1, x.key(2, 0));
        }
    }

    private static int readThenWrite(SiblingJoins x, int writer) {
        x.read(writer, 2, 0);
        return x.write(writer, 2, 0, 70);
    }

    /** "if there would be more than 4 siblings" */
    private static void writeIsRefusedByAFifth() {
        for (int known = 0; known <= 4; known++) {
            SiblingJoins x = Made.some(known, 1, 1);
            x.read(4, 1, 1);
            for (int writer = known; writer < 4; writer++) {
                x.write(writer, 1, 1, writer);
            }
            CHECK.equal("siblings then", 5 - known, x.ifWritten(4, 1, 1, 1));
            if (known == 0) {
                CHECK.noState("five", x, () -> x.write(4, 1, 1, 9));
            } else {
                CHECK.equal("four or less", known, x.write(4, 1, 1, 9));
            }
            CHECK.equal("siblings then", Math.min(4, 5 - known), x.key(1, 1));
        }
    }

    private static void writeChangesNothingElse() {
        SiblingJoins x = Made.full();
        x.write(2, 1, 1, 99);
        for (int place = 0; place < 9; place++) {
            int number = place % 3 + 1;
            StringBuilder due = new StringBuilder();
            for (int writer = 0; writer < 4; writer++) {
                boolean fresh = place == 4 && writer == 2;
                due.append(writer == 0 ? "" : " ").append(writer).append(':').append(fresh ? 4 : number);
                due.append('=').append(fresh ? 99 : 12 * (place / 3) + 4 * (place % 3) + writer);
            }
            CHECK.equal("siblings at " + place, due.toString(), Checks.siblings(x, place % 3, place / 3));
        }
        CHECK.equal("36 siblings", 36, x.count(0));
    }

    /** Four at the store 0, of which the writer 4 knew some ahead of writing at the store 2. */
    private static SiblingJoins knownAtTheStore2(int known) {
        SiblingJoins x = Made.some(known, 0, 0);
        x.read(4, 0, 0);
        for (int writer = known; writer < 4; writer++) {
            x.write(writer, 0, 0, writer);
        }
        x.write(4, 0, 2, 40);
        return x;
    }

    /** "Returns how many siblings of the store that it had ahead are dropped.", "if there would be more than 4" */
    private static void pullAnswersHowManyAreDropped() {
        for (int known = 0; known <= 4; known++) {
            SiblingJoins x = knownAtTheStore2(known);
            CHECK.equal("siblings then", 5 - known, x.ifPulled(0, 2, 0, 2));
            if (known == 0) {
                CHECK.noState("five", x, () -> x.pull(0, 2, 0));
                CHECK.noState("five the other way", x, () -> x.pull(2, 0, 0));
            } else {
                CHECK.equal("dropped", known, x.pull(0, 2, 0));
                CHECK.equal("siblings then", 5 - known, x.key(0, 0));
                CHECK.equal("counted", known, x.count(4));
                CHECK.equal("not by writing", 0, x.count(3));
            }
        }
    }

    private static void pullDoesNotCountWhatStaysAway() {
        for (int known = 1; known <= 4; known++) {
            SiblingJoins x = knownAtTheStore2(known);
            CHECK.equal("none of its own is dropped", 0, x.pull(2, 0, 0));
            CHECK.equal("what it does not cover comes", 5 - known, x.key(0, 2));
            CHECK.equal("nothing is counted", 0, x.count(4));
        }
    }

    /** "if there are no siblings" */
    private static void joinNeedsASibling() {
        for (int place = 0; place < 9; place++) {
            int key = place / 3;
            int store = place % 3;
            SiblingJoins x = Made.four((store + 1) % 3, key);
            x.write(0, (key + 1) % 3, store, 1);
            CHECK.noState("none there", x, () -> x.join(4, key, store, 0));
            x.write(1, key, store, 66);
            for (int rule = 0; rule <= 3; rule++) {
                CHECK.equal("one is enough", 66, x.join(4, key, store, rule));
            }
        }
    }

    private static void joinIsNeverTooMuch() {
        for (int writer = 0; writer < 5; writer++) {
            SiblingJoins x = Made.four(0, 0);
            CHECK.equal("four give room to one", 6, x.join(writer, 0, 0, 2));
            CHECK.equal("one", writer + ":" + (writer < 4 ? 2 : 1) + "=6", Checks.siblings(x, 0, 0));
        }
    }

    /** "3: the value of the first sibling", by the order of the writers, not by that of the writings */
    private static void joinByOneOfTheSiblings() {
        SiblingJoins x = new SiblingJoins();
        x.write(3, 0, 0, 30);
        x.write(2, 0, 0, 20);
        x.write(3, 0, 0, 31);
        CHECK.equal("the least writer's", 20, x.join(3, 0, 0, 3));
        CHECK.equal("by the writer 3", "3:3=20", Checks.siblings(x, 0, 0));
    }

    /**
     * "A writer loses its knowledge of a key, but for its own number.", "Returns the sum of the numbers that it
     * loses."
     */
    private static void loseKeepsItsOwnNumber() {
        for (int writer = 0; writer < 5; writer++) {
            SiblingJoins x = new SiblingJoins();
            int sum = 0;
            for (int other = 0; other < 5; other++) {
                for (int i = 0; i <= other; i++) {
                    x.write(other, 1, other % 3, i);
                }
                sum += other == writer ? 0 : other + 1;
            }
            for (int store = 0; store < 3; store++) {
                x.read(writer, 1, store);
            }
            CHECK.equal("all others' numbers", sum, x.lose(writer, 1));
            for (int other = 0; other < 5; other++) {
                CHECK.equal("only its own is left", other == writer ? writer + 1 : 0, x.knows(writer, 1, other));
            }
            CHECK.equal("nothing is left to lose", 0, x.lose(writer, 1));
        }
    }

    private static void loseOfNothing() {
        SiblingJoins x = new SiblingJoins();
        CHECK.equal("knows nothing", 0, x.lose(0, 0));
        x.write(4, 2, 0, 1);
        CHECK.equal("knows itself alone", 0, x.lose(4, 2));
        CHECK.equal("and still does", 1, x.knows(4, 2, 4));
        CHECK.equal("saved all the same", 3, x.count(7));
    }

    private static void loseIsNotForgetting() {
        SiblingJoins x = Made.four(0, 0);
        x.read(3, 0, 0);
        x.read(2, 0, 0);
        x.write(0, 1, 0, 7);
        x.read(3, 1, 0);
        CHECK.equal("three others", 3, x.lose(3, 0));
        CHECK.equal("another writer still knows", "1 1 1 1 0", Checks.knowledge(x, 2, 0));
        CHECK.equal("the store, too", "1 1 1 1 0", Checks.vector(x, 0, 0));
        CHECK.equal("and of another key", "1 0 0 0 0", Checks.knowledge(x, 3, 1));
        CHECK.equal("siblings stay", 4, x.key(0, 0));
        CHECK.equal("writes stay", 4, x.key(0, 4));
        CHECK.equal("only its own is dropped now", 1, x.write(3, 0, 0, 9));
        CHECK.equal("its number goes on", 2, x.knows(3, 0, 3));
    }

    /** "Returns how many times it had written the key." */
    private static void forgetAnswersHowOften() {
        for (int times = 0; times <= 5; times++) {
            SiblingJoins x = new SiblingJoins();
            for (int i = 0; i < times; i++) {
                x.write(2, 0, i % 3, i);
            }
            x.write(2, 1, 0, 9);
            x.pullAll();
            x.read(0, 0, 0);
            x.write(0, 0, 0, 1);
            x.pullAll();
            CHECK.equal("times", times, x.forget(2, 0));
            CHECK.equal("then never", 0, x.forget(2, 0));
            CHECK.equal("both are counted", 2, x.count(6));
        }
    }

    /** "A writer is forgotten for a key." */
    private static void forgetIsForOneKey() {
        SiblingJoins x = new SiblingJoins();
        for (int key = 0; key < 3; key++) {
            x.write(1, key, 0, 1);
            x.read(2, key, 0);
            x.write(2, key, 0, 2);
        }
        x.pullAll();
        CHECK.equal("of the key 1", 1, x.forget(1, 1));
        for (int key = 0; key < 3; key++) {
            CHECK.equal("vector of the key " + key, key == 1 ? 0 : 1, x.vector(2, key, 1));
            CHECK.equal("knowledge of the key " + key, key == 1 ? 0 : 1, x.knows(2, key, 1));
            CHECK.equal("writes of the key " + key, key == 1 ? 1 : 2, x.key(key, 4));
            CHECK.equal("the other writer", 1, x.vector(2, key, 2));
        }
    }

    private static void pullAllOfNothing() {
        SiblingJoins x = new SiblingJoins();
        long before = x.digest();
        CHECK.equal("nothing is dropped", 0, x.pullAll());
        CHECK.equal("saved, also if it changes nothing", 1, x.count(7));
        CHECK.equal("undone", 0, x.undo());
        CHECK.equal("as before", before, x.digest());
        SiblingJoins full = Made.full();
        CHECK.equal("the store 0 twice, the store 1 once, each four of three keys", 36, full.pullAll());
        CHECK.equal("all are the same", 0, full.pullAll());
        CHECK.equal("all agree", 1.0, full.agreement());
    }

    /** "the store 0 from 1, 0 from 2, 1 from 0, 1 from 2, 2 from 0, 2 from 1, in this order" */
    private static void pullAllInItsOrder() {
        int[][] writeAt = {{0, 1, 2}, {0, 2, 1}, {1, 0, 2}, {2, 0, 1}, {1, 2, 0}, {2, 1, 0}};
        int[] due = {3, 2, 2, 2, 2, 2};
        for (int i = 0; i < 6; i++) {
            SiblingJoins x = new SiblingJoins();
            for (int number = 1; number <= 3; number++) {
                x.write(0, 0, writeAt[i][number - 1], number);
            }
            CHECK.equal("dropped on the way, row " + i, due[i], x.pullAll());
            for (int store = 0; store < 3; store++) {
                CHECK.equal("the last one, row " + i, "0:3=3", Checks.siblings(x, store, 0));
            }
        }
    }

    /** "Returns how many siblings are dropped by that, all together." */
    private static void pullAllAddsUpAllKeys() {
        for (int keys = 0; keys <= 3; keys++) {
            SiblingJoins x = new SiblingJoins();
            for (int key = 0; key < keys; key++) {
                x.write(4, key, 0, 1);
                x.pull(2, 0, key);
                x.write(4, key, 1, 2);
            }
            CHECK.equal("two of each key", 2 * keys, x.pullAll());
            CHECK.equal("counted", 2 * keys, x.count(4));
            CHECK.equal("the rest", 3 * keys, x.count(0));
        }
    }

    /** "if there would be more than 4 siblings somewhere", also if the next pull would drop most of them */
    private static void pullAllIsRefusedInTheMidst() {
        SiblingJoins x = Made.four(0, 2);
        x.pull(2, 0, 2);
        x.join(0, 2, 2, 0);
        x.write(4, 2, 1, 9);
        x.write(3, 0, 1, 5);
        CHECK.noState("the store 0 from 1", x, x::pullAll);
        CHECK.equal("the key 0 was pulled ahead of it, but is not", 0, x.key(0, 0));
        x.pull(0, 2, 2);
        CHECK.equal("none is left to drop", 0, x.pullAll());
        CHECK.equal("two", "0:2=3 4:1=9", Checks.siblings(x, 1, 2));
        CHECK.equal("and the key 0", "3:1=5", Checks.siblings(x, 2, 0));
    }
}
