/**
 * The sentences under "Terms" on writers, stores and vectors, on reading, writing, pulling and joining, and on
 * forgetting, each at its bounds. What a test looks at stands above it, in the document's words.
 */
public final class TermsBoundsTest {
    private static final String NO_NUMBERS = "0 0 0 0 0";
    private static final Checks CHECK = new Checks();

    public static void main(String[] args) {
        everyPlaceIsItsOwn();
        numbersUpTo999();
        atMostFourByWriting();
        atMostFourByPulling();
        atMostFourByPullingAll();
        valuesFrom0To99();
        numbersFromOneOn();
        orderedByWriters();
        coversFromItsNumberOn();
        mergedByTheGreater();
        readingMergesOnlyTheKnowledge();
        writingCountsOneMore();
        writingDropsWhatIsCovered();
        writingMergesTheWholeKnowledge();
        aSiblingOfBothStays();
        aSiblingOfThePullerAlone();
        aSiblingOfTheOtherAlone();
        pullingLeavesTheOther();
        joiningReadsThenWrites();
        joiningByEachRule();
        joiningOnlyWhatIsThere();
        forgettingNeedsNoSibling();
        forgettingNeedsTheSameNumber();
        forgettingOneThatNeverWrote();
        forgettingMakesAllZero();
        CHECK.finish();
    }

    private static void siblingsAre(String what, String due, SiblingJoins x, int store, int key) {
        CHECK.equal(what + ": siblings of " + key + " at " + store, due, Checks.siblings(x, store, key));
    }

    private static void vectorIs(String what, String due, SiblingJoins x, int store, int key) {
        CHECK.equal(what + ": vector of " + key + " at " + store, due, Checks.vector(x, store, key));
    }

    private static void knowledgeIs(String what, String due, SiblingJoins x, int writer, int key) {
        CHECK.equal(what + ": knowledge of " + writer + " of " + key, due, Checks.knowledge(x, writer, key));
    }

    /** "0 0 1 0 0" of the writer 2. */
    private static String numberOneOf(int writer) {
        StringBuilder text = new StringBuilder(NO_NUMBERS);
        text.setCharAt(2 * writer, '1');
        return text.toString();
    }

    /** "There are 5 writers, 3 stores and 3 keys, all numbered from 0." */
    private static void everyPlaceIsItsOwn() {
        for (int place = 0; place < 45; place++) {
            int writer = place / 9;
            int key = place / 3 % 3;
            int store = place % 3;
            SiblingJoins x = new SiblingJoins();
            x.write(writer, key, store, 42);
            for (int other = 0; other < 9; other++) {
                boolean here = other / 3 == key && other % 3 == store;
                siblingsAre("place " + place, here ? writer + ":1=42" : "", x, other % 3, other / 3);
                vectorIs("place " + place, here ? numberOneOf(writer) : NO_NUMBERS, x, other % 3, other / 3);
            }
            for (int other = 0; other < 15; other++) {
                boolean here = other / 5 == key && other % 5 == writer;
                knowledgeIs("place " + place, here ? numberOneOf(writer) : NO_NUMBERS, x, other % 5, other / 5);
            }
        }
    }

    /** "A vector has a number, 0 to 999, for each writer." These many writes need more calls than are promised. */
    private static void numbersUpTo999() {
        SiblingJoins x = new SiblingJoins();
        for (int i = 1; i <= 999; i++) {
            x.write(2, 1, 0, i % 100);
        }
        vectorIs("999 writes", "0 0 999 0 0", x, 0, 1);
        knowledgeIs("999 writes", "0 0 999 0 0", x, 2, 1);
        siblingsAre("999 writes", "2:999=99", x, 0, 1);
        x.read(4, 1, 0);
        knowledgeIs("read", "0 0 999 0 0", x, 4, 1);
        x.pull(1, 0, 1);
        vectorIs("pulled", "0 0 999 0 0", x, 1, 1);
        siblingsAre("pulled", "2:999=99", x, 1, 1);
        CHECK.equal("covered by the writer and the reader", 4 + 16, x.sibling(1, 1, 0, 3));
        CHECK.equal("ifWritten of who may not write", 1, x.ifWritten(2, 1, 0, 0));
        CHECK.equal("siblings then", 1, x.ifWritten(2, 1, 0, 1));
        CHECK.noState("write 1000", x, () -> x.write(2, 1, 2, 0));
        CHECK.noState("write 1000 by joining", x, () -> x.join(2, 1, 0, 0));
        CHECK.equal("lost", 999, x.lose(4, 1));
        x.read(4, 1, 0);
        x.write(4, 1, 0, 7);
        x.pullAll();
        CHECK.equal("forgotten", 999, x.forget(2, 1));
        CHECK.equal("may write again", 0, x.write(2, 1, 0, 0));
        siblingsAre("anew", "2:1=0 4:1=7", x, 0, 1);
    }

    /** "a store has a vector, at first all 0, and at most 4 siblings, at first none" */
    private static void atMostFourByWriting() {
        for (int place = 0; place < 9; place++) {
            int key = place / 3;
            int store = place % 3;
            SiblingJoins x = new SiblingJoins();
            CHECK.equal("at first none", 0, x.key(key, store));
            vectorIs("at first", NO_NUMBERS, x, store, key);
            for (int writer = 4; writer > 0; writer--) {
                x.write(writer, key, store, writer);
                CHECK.equal("one more", 5 - writer, x.key(key, store));
            }
            CHECK.noState("a fifth one", x, () -> x.write(0, key, store, 0));
            CHECK.equal("four stay", 4, x.key(key, store));
            CHECK.equal("one for one", 1, x.write(4, key, store, 5));
            CHECK.equal("still four", 4, x.key(key, store));
        }
    }

    /** The writers below the first one at the store 0, it and those above it, up to the last one, at the store 1. */
    private static SiblingJoins shared(int key, int first, int last) {
        SiblingJoins x = new SiblingJoins();
        for (int writer = 0; writer <= last; writer++) {
            x.write(writer, key, writer < first ? 0 : 1, writer);
        }
        return x;
    }

    private static void atMostFourByPulling() {
        for (int first = 1; first <= 4; first++) {
            SiblingJoins five = shared(0, first, 4);
            CHECK.noState("five of both", five, () -> five.pull(0, 1, 0));
            CHECK.noState("five of both, the other way", five, () -> five.pull(1, 0, 0));
            CHECK.noState("five somewhere", five, five::pullAll);
            SiblingJoins four = shared(0, first, 3);
            CHECK.equal("four of both", 0, four.pull(0, 1, 0));
            CHECK.equal("four are there", 4, four.key(0, 0));
            CHECK.equal("the other way", 0, four.pull(1, 0, 0));
            CHECK.equal("four are there, too", 4, four.key(0, 1));
        }
        SiblingJoins none = Made.four(2, 1);
        CHECK.equal("four from none", 0, none.pull(2, 0, 1));
        CHECK.equal("four to none", 0, none.pull(0, 2, 1));
        CHECK.equal("four stay", 4, none.key(1, 2));
        CHECK.equal("four come", 4, none.key(1, 0));
        SiblingJoins swapped = Made.four(0, 0);
        swapped.pull(1, 0, 0);
        swapped.read(3, 0, 0);
        swapped.write(3, 0, 1, 30);
        swapped.write(4, 0, 1, 40);
        CHECK.equal("four drop all and take two", 4, swapped.pull(0, 1, 0));
        siblingsAre("two for four", "3:2=30 4:1=40", swapped, 0, 0);
        SiblingJoins one = Made.four(0, 0);
        one.pull(1, 0, 0);
        one.write(3, 0, 1, 30);
        CHECK.equal("of four, one for one", 1, one.pull(0, 1, 0));
        siblingsAre("one for one", "0:1=0 1:1=1 2:1=2 3:2=30", one, 0, 0);
    }

    private static void atMostFourByPullingAll() {
        for (int key = 0; key < 3; key++) {
            SiblingJoins five = shared(key, 2, 4);
            CHECK.noState("five of the key " + key, five, five::pullAll);
            SiblingJoins four = shared(key, 2, 3);
            CHECK.equal("four of the key " + key, 0, four.pullAll());
            CHECK.equal("four everywhere", 12, four.count(0));
        }
    }

    /** "A sibling is a value, 0 to 99" */
    private static void valuesFrom0To99() {
        SiblingJoins x = new SiblingJoins();
        for (int value = 0; value <= 99; value++) {
            x.write(1, 0, 0, value);
            CHECK.equal("the value stays as it is", value, x.sibling(0, 0, 0, 2));
            x.pull(1, 0, 0);
            CHECK.equal("also where it is pulled to", value, x.sibling(1, 0, 0, 2));
        }
        CHECK.noArgument("value -1", x, () -> x.write(1, 0, 0, -1));
        CHECK.noArgument("value 100", x, () -> x.write(1, 0, 0, 100));
    }

    /** "the number of the write among the writer's writes of this key, from 1 on" */
    private static void numbersFromOneOn() {
        SiblingJoins x = new SiblingJoins();
        x.write(2, 0, 0, 10);
        siblingsAre("first", "2:1=10", x, 0, 0);
        x.write(2, 0, 1, 20);
        siblingsAre("second, at another store", "2:2=20", x, 1, 0);
        x.write(2, 0, 2, 30);
        siblingsAre("third", "2:3=30", x, 2, 0);
        x.write(2, 1, 2, 40);
        siblingsAre("first of another key", "2:1=40", x, 2, 1);
        x.write(3, 0, 2, 50);
        siblingsAre("first of another writer", "2:3=30 3:1=50", x, 2, 0);
        x.undo();
        x.undo();
        x.undo();
        x.write(2, 0, 2, 60);
        siblingsAre("an undone number is given again", "2:3=60", x, 2, 0);
        CHECK.noArgument("refused", x, () -> x.write(2, 0, 2, 100));
        x.write(2, 0, 2, 70);
        siblingsAre("a refused write has no number", "2:4=70", x, 2, 0);
    }

    /** "siblings of a store and key are ordered by their writers" (two of one writer never meet at a store) */
    private static void orderedByWriters() {
        for (int code = 0; code < 625; code++) {
            int[] order = {code / 125, code / 25 % 5, code / 5 % 5, code % 5};
            int mask = 0;
            for (int writer : order) {
                mask |= 1 << writer;
            }
            if (Integer.bitCount(mask) == 4) {
                orderIsBy(order, mask);
            }
        }
    }

    private static void orderIsBy(int[] order, int mask) {
        SiblingJoins written = new SiblingJoins();
        SiblingJoins pulled = new SiblingJoins();
        for (int i = 0; i < 4; i++) {
            written.write(order[i], 0, 0, 90 - 20 * i);
            pulled.write(order[i], 0, i / 2, 90 - 20 * i);
        }
        pulled.pull(1, 0, 0);
        StringBuilder due = new StringBuilder();
        for (int writer = 0; writer < 5; writer++) {
            for (int i = 0; i < 4; i++) {
                if (order[i] == writer) {
                    due.append(due.length() == 0 ? "" : " ").append(writer).append(":1=").append(90 - 20 * i);
                }
            }
        }
        siblingsAre("written, mask " + mask, due.toString(), written, 0, 0);
        siblingsAre("pulled, mask " + mask, due.toString(), pulled, 1, 0);
    }

    /** "A vector covers a sibling if its number for the sibling's writer is at least the sibling's number." */
    private static void coversFromItsNumberOn() {
        SiblingJoins x = new SiblingJoins();
        x.write(0, 0, 0, 1);
        x.read(1, 0, 0);
        x.write(0, 0, 0, 2);
        x.read(2, 0, 0);
        x.pull(1, 0, 0);
        x.write(0, 0, 0, 3);
        x.read(3, 0, 0);
        siblingsAre("number 2", "0:2=2", x, 1, 0);
        CHECK.equal("0 knows 3, 1 knows 1, 2 knows 2, 3 knows 3, 4 knows 0", 1 + 4 + 8, x.sibling(1, 0, 0, 3));
        int[] drops = {1, 0, 1, 1, 0};
        for (int writer = 0; writer < 5; writer++) {
            CHECK.equal("writing drops what is covered", drops[writer], x.ifWritten(writer, 0, 1, 0));
        }
        CHECK.equal("number 3 is covered by 3 alone", 1 + 8, x.sibling(0, 0, 0, 3));
        x.write(4, 0, 2, 4);
        x.read(1, 0, 2);
        CHECK.equal("a number for another writer covers nothing", 1 + 8, x.sibling(0, 0, 0, 3));
    }

    /** "Vectors are merged by taking the greater number for each writer." */
    private static void mergedByTheGreater() {
        SiblingJoins x = new SiblingJoins();
        for (int i = 1; i <= 3; i++) {
            x.write(0, 2, 0, i);
            x.write(1, 2, 1, i);
            x.write(2, 2, i % 2, i);
        }
        vectorIs("ahead", "3 0 2 0 0", x, 0, 2);
        vectorIs("ahead", "0 3 3 0 0", x, 1, 2);
        x.read(4, 2, 0);
        knowledgeIs("read once", "3 0 2 0 0", x, 4, 2);
        x.read(4, 2, 1);
        knowledgeIs("greater ones are taken, greater ones stay", "3 3 3 0 0", x, 4, 2);
        x.read(4, 2, 0);
        knowledgeIs("less ones change nothing", "3 3 3 0 0", x, 4, 2);
        x.pull(0, 1, 2);
        vectorIs("pulled", "3 3 3 0 0", x, 0, 2);
        x.write(4, 2, 2, 9);
        vectorIs("written", "3 3 3 0 1", x, 2, 2);
        x.pull(2, 1, 2);
        vectorIs("less ones change nothing here", "3 3 3 0 1", x, 2, 2);
    }

    /** "When a writer reads a key at a store, its knowledge of the key is merged with the store's vector of it." */
    private static void readingMergesOnlyTheKnowledge() {
        SiblingJoins x = Made.four(1, 2);
        x.write(4, 2, 0, 9);
        CHECK.equal("read", 4, x.read(4, 2, 1));
        knowledgeIs("who reads", "1 1 1 1 1", x, 4, 2);
        vectorIs("the store does not learn", "1 1 1 1 0", x, 1, 2);
        vectorIs("nor the other one", "0 0 0 0 1", x, 0, 2);
        knowledgeIs("nor another writer", "1 0 0 0 0", x, 0, 2);
        knowledgeIs("nor of another key", NO_NUMBERS, x, 4, 1);
        siblingsAre("siblings stay", "0:1=0 1:1=1 2:1=2 3:1=3", x, 1, 2);
        CHECK.equal("no writing", 5, x.count(2));
    }

    /** "its count of writes becomes 1 more", "the new sibling has this count as its number" */
    private static void writingCountsOneMore() {
        SiblingJoins x = new SiblingJoins();
        for (int i = 1; i <= 12; i++) {
            CHECK.equal("ahead", i - 1, x.key(1, 4));
            x.write(3, 1, i % 3, i);
            CHECK.equal("one more", i, x.key(1, 4));
            siblingsAre("number", "3:" + i + "=" + i, x, i % 3, 1);
            CHECK.equal("the knowledge gets this number", i, x.knows(3, 1, 3));
            CHECK.equal("the store's vector, too", i, x.vector(i % 3, 1, 3));
        }
        CHECK.equal("of another key", 0, x.key(0, 4));
    }

    /** "all siblings of the key there that its knowledge covers (as it is ahead of the write) are dropped" */
    private static void writingDropsWhatIsCovered() {
        for (int known = 0; known <= 4; known++) {
            SiblingJoins x = Made.some(known, 0, 1);
            x.read(4, 1, 0);
            for (int writer = known; writer < 3; writer++) {
                x.write(writer, 1, 0, writer);
            }
            int unknown = Math.max(0, 3 - known);
            CHECK.equal("would drop", known, x.ifWritten(4, 1, 0, 0));
            CHECK.equal("drops " + known, known, x.write(4, 1, 0, 9));
            CHECK.equal("the others stay, one is new", unknown + 1, x.key(1, 0));
            CHECK.equal("all dropped so far", known, x.count(3));
        }
        SiblingJoins y = new SiblingJoins();
        y.write(0, 0, 0, 1);
        y.read(1, 0, 0);
        y.write(0, 0, 0, 2);
        y.pull(1, 0, 0);
        CHECK.equal("a later number than it knows stays", 0, y.write(1, 0, 0, 3));
        CHECK.equal("also where it was pulled to", 0, y.write(1, 0, 1, 4));
        y.read(2, 0, 0);
        y.write(0, 1, 0, 5);
        CHECK.equal("only of this key", 0, y.write(2, 1, 0, 6));
        CHECK.equal("only there", 2, y.key(0, 1));
    }

    /** "then the store's vector is merged with the knowledge" */
    private static void writingMergesTheWholeKnowledge() {
        SiblingJoins x = Made.four(0, 0);
        x.read(4, 0, 0);
        CHECK.equal("at an empty store", 0, x.write(4, 0, 2, 8));
        vectorIs("the whole knowledge", "1 1 1 1 1", x, 2, 0);
        knowledgeIs("the writer", "1 1 1 1 1", x, 4, 0);
        x.write(0, 0, 2, 9);
        vectorIs("the greater numbers stay", "2 1 1 1 1", x, 2, 0);
        knowledgeIs("writing is not reading", "2 0 0 0 0", x, 0, 0);
        vectorIs("the store 0 stays", "1 1 1 1 0", x, 0, 0);
    }

    /** "a sibling that both stores have stays (the same writer and number)", though both vectors cover it */
    private static void aSiblingOfBothStays() {
        SiblingJoins x = Made.four(0, 0);
        CHECK.equal("all are new", 0, x.pull(1, 0, 0));
        CHECK.equal("all stay", 0, x.pull(1, 0, 0));
        CHECK.equal("all stay there, too", 0, x.pull(0, 1, 0));
        siblingsAre("four", "0:1=0 1:1=1 2:1=2 3:1=3", x, 0, 0);
        siblingsAre("four", "0:1=0 1:1=1 2:1=2 3:1=3", x, 1, 0);
        SiblingJoins y = new SiblingJoins();
        y.write(0, 0, 0, 7);
        y.write(0, 0, 1, 7);
        CHECK.equal("the same value and writer, another number", 1, y.pull(0, 1, 0));
        siblingsAre("the later one", "0:2=7", y, 0, 0);
    }

    /** The writer 0 wrote at the store that pulls; the other one has a number for it, but not the sibling. */
    private static void aSiblingOfThePullerAlone() {
        SiblingJoins less = new SiblingJoins();
        less.write(0, 0, 1, 1);
        less.write(0, 0, 0, 2);
        CHECK.equal("the other's number is less", 0, less.pull(0, 1, 0));
        siblingsAre("it stays", "0:2=2", less, 0, 0);
        SiblingJoins equal = new SiblingJoins();
        equal.write(0, 0, 0, 1);
        equal.read(3, 0, 0);
        equal.write(3, 0, 1, 5);
        CHECK.equal("the other's number is the same", 1, equal.pull(0, 1, 0));
        siblingsAre("it is dropped", "3:1=5", equal, 0, 0);
        SiblingJoins greater = new SiblingJoins();
        greater.write(0, 0, 0, 1);
        greater.write(0, 0, 1, 2);
        greater.write(0, 0, 1, 3);
        CHECK.equal("the other's number is greater", 1, greater.pull(0, 1, 0));
        siblingsAre("it is dropped", "0:3=3", greater, 0, 0);
        SiblingJoins unlike = new SiblingJoins();
        unlike.write(0, 0, 0, 1);
        unlike.write(1, 0, 1, 1);
        unlike.write(1, 0, 1, 2);
        CHECK.equal("the number is another writer's", 0, unlike.pull(0, 1, 0));
        siblingsAre("both stay", "0:1=1 1:2=2", unlike, 0, 0);
    }

    private static void aSiblingOfTheOtherAlone() {
        SiblingJoins less = new SiblingJoins();
        less.write(0, 0, 0, 1);
        less.write(0, 0, 1, 2);
        less.pull(0, 1, 0);
        siblingsAre("the puller's number is less", "0:2=2", less, 0, 0);
        SiblingJoins equal = new SiblingJoins();
        equal.write(0, 0, 1, 1);
        equal.read(3, 0, 1);
        equal.write(3, 0, 0, 5);
        CHECK.equal("the puller's number is the same", 0, equal.pull(0, 1, 0));
        siblingsAre("it does not come", "3:1=5", equal, 0, 0);
        SiblingJoins greater = new SiblingJoins();
        greater.write(0, 0, 1, 1);
        greater.write(0, 0, 0, 2);
        greater.write(0, 0, 0, 3);
        CHECK.equal("the puller's number is greater", 0, greater.pull(0, 1, 0));
        siblingsAre("it does not come", "0:3=3", greater, 0, 0);
        SiblingJoins none = new SiblingJoins();
        none.write(0, 0, 1, 1);
        none.pull(0, 1, 0);
        siblingsAre("the puller's number is 0", "0:1=1", none, 0, 0);
    }

    /** "its vector is merged with that of the other one; the other store stays as it is" */
    private static void pullingLeavesTheOther() {
        SiblingJoins x = new SiblingJoins();
        x.write(0, 1, 0, 1);
        x.write(1, 1, 1, 2);
        x.write(2, 1, 2, 3);
        x.pull(2, 0, 1);
        vectorIs("the one that pulls", "1 0 1 0 0", x, 2, 1);
        vectorIs("the other one", "1 0 0 0 0", x, 0, 1);
        vectorIs("the third one", "0 1 0 0 0", x, 1, 1);
        siblingsAre("the one that pulls", "0:1=1 2:1=3", x, 2, 1);
        siblingsAre("the other one", "0:1=1", x, 0, 1);
        siblingsAre("the third one", "1:1=2", x, 1, 1);
        knowledgeIs("a writer there does not learn", "0 0 1 0 0", x, 2, 1);
        CHECK.equal("no writing", 3, x.count(2));
    }

    /** "When a writer joins a key at a store, it reads it, and then writes it" */
    private static void joiningReadsThenWrites() {
        for (int siblings = 1; siblings <= 4; siblings++) {
            SiblingJoins x = Made.some(siblings, 1, 0);
            SiblingJoins y = Made.some(siblings, 1, 0);
            CHECK.equal("the value", siblings - 1, x.join(4, 0, 1, 0));
            y.read(4, 0, 1);
            CHECK.equal("dropped", siblings, y.write(4, 0, 1, siblings - 1));
            CHECK.equal("as one call", siblings + 1, x.count(7));
            siblingsAre("as by two calls", Checks.siblings(y, 1, 0), x, 1, 0);
            vectorIs("as by two calls", Checks.vector(y, 1, 0), x, 1, 0);
            knowledgeIs("as by two calls", Checks.knowledge(y, 4, 0), x, 4, 0);
            CHECK.equal("a writing, too", y.count(2), x.count(2));
            CHECK.equal("that drops, too", siblings, x.count(3));
            CHECK.equal("a join", 1, x.count(5));
        }
    }

    private static void joinsTo(int[] values, int[] due) {
        for (int rule = 0; rule <= 3; rule++) {
            SiblingJoins x = new SiblingJoins();
            for (int i = values.length - 1; i >= 0; i--) {
                x.write(i, 0, 0, values[i]);
            }
            CHECK.equal("rule " + rule + " of " + values.length, due[rule], x.join(4, 0, 0, rule));
            siblingsAre("joined", "4:1=" + due[rule], x, 0, 0);
        }
    }

    /** "0: the greatest value; 1: the least one; 2: the sum of all values, modulo 100; 3: the value of the first" */
    private static void joiningByEachRule() {
        joinsTo(new int[] {0}, new int[] {0, 0, 0, 0});
        joinsTo(new int[] {99}, new int[] {99, 99, 99, 99});
        joinsTo(new int[] {98, 1}, new int[] {98, 1, 99, 98});
        joinsTo(new int[] {1, 99}, new int[] {99, 1, 0, 1});
        joinsTo(new int[] {50, 51}, new int[] {51, 50, 1, 50});
        joinsTo(new int[] {66, 67, 66}, new int[] {67, 66, 99, 66});
        joinsTo(new int[] {67, 66, 67}, new int[] {67, 66, 0, 67});
        joinsTo(new int[] {99, 99, 99, 99}, new int[] {99, 99, 96, 99});
        joinsTo(new int[] {7, 0, 99, 8}, new int[] {99, 0, 14, 7});
        joinsTo(new int[] {0, 0, 0, 0}, new int[] {0, 0, 0, 0});
    }

    /** "from all siblings there": not from those that were there once, nor from those at another store */
    private static void joiningOnlyWhatIsThere() {
        for (int rule = 0; rule <= 3; rule++) {
            SiblingJoins x = new SiblingJoins();
            int[] values = {50, 99, 0, 70};
            for (int writer = 0; writer < 4; writer++) {
                x.write(writer, 0, 0, values[writer]);
            }
            x.read(4, 0, 0);
            x.write(4, 0, 0, 40);
            x.write(1, 0, 1, 0);
            x.write(2, 0, 2, 99);
            CHECK.equal("rule " + rule + " of the one that is left", 40, x.join(0, 0, 0, rule));
        }
    }

    /** All stores have the writer 0's first sibling; then the writer 3 replaces it at all stores but one. */
    private static SiblingJoins leftAt(int store, int key) {
        SiblingJoins x = new SiblingJoins();
        x.write(0, key, 0, 1);
        x.pullAll();
        x.read(3, key, 0);
        for (int other = 0; other < 3; other++) {
            if (other != store) {
                x.write(3, key, other, 5);
            }
        }
        return x;
    }

    /** "if no store has a sibling of it" */
    private static void forgettingNeedsNoSibling() {
        for (int place = 0; place < 9; place++) {
            int key = place / 3;
            int store = place % 3;
            SiblingJoins x = leftAt(store, key);
            CHECK.equal("the same numbers", 1, x.vector(store, key, 0) * x.vector((store + 1) % 3, key, 0));
            CHECK.noState("one store has one", x, () -> x.forget(0, key));
            x.write(3, key, store, 5);
            CHECK.equal("no store has one", 1, x.forget(0, key));
        }
    }

    /** "and all stores have the same number for it in their vectors" */
    private static void forgettingNeedsTheSameNumber() {
        for (int store = 0; store < 3; store++) {
            int at = store;
            int next = (store + 1) % 3;
            int last = (store + 2) % 3;
            SiblingJoins less = new SiblingJoins();
            less.write(0, 0, next, 1);
            less.read(3, 0, next);
            less.write(3, 0, next, 5);
            less.pull(last, next, 0);
            CHECK.noState("none at " + at, less, () -> less.forget(0, 0));
            less.pull(at, next, 0);
            CHECK.equal("the same everywhere", 1, less.forget(0, 0));
            SiblingJoins greater = leftAt(-1, 0);
            greater.write(0, 0, at, 2);
            greater.read(3, 0, at);
            greater.write(3, 0, at, 6);
            CHECK.noState("a greater one at " + at, greater, () -> greater.forget(0, 0));
            greater.pull(next, at, 0);
            CHECK.noState("at two stores", greater, () -> greater.forget(0, 0));
            greater.pull(last, at, 0);
            CHECK.equal("at all stores", 2, greater.forget(0, 0));
        }
    }

    /** "A writer (also one that never wrote) can be forgotten" */
    private static void forgettingOneThatNeverWrote() {
        SiblingJoins x = Made.four(1, 2);
        x.read(4, 2, 1);
        CHECK.equal("never wrote", 0, x.forget(4, 2));
        CHECK.equal("it counts", 1, x.count(6));
        CHECK.equal("it is saved", 6, x.count(7));
        knowledgeIs("what it knows of others stays", "1 1 1 1 0", x, 4, 2);
        vectorIs("others stay", "1 1 1 1 0", x, 1, 2);
        SiblingJoins y = new SiblingJoins();
        for (int place = 0; place < 15; place++) {
            CHECK.equal("of an empty object", 0, y.forget(place / 3, place % 3));
        }
        CHECK.equal("all of them", 15, y.count(6));
    }

    /**
     * "then this number becomes 0 in all vectors of the stores and in all knowledge of the key, and so does its count
     * of writes"
     */
    private static void forgettingMakesAllZero() {
        SiblingJoins x = leftAt(-1, 1);
        x.write(0, 0, 0, 8);
        for (int writer = 0; writer < 5; writer++) {
            x.read(writer, 1, 2);
            CHECK.equal("all know it", 1, x.knows(writer, 1, 0));
        }
        CHECK.equal("once written", 1, x.forget(0, 1));
        for (int writer = 0; writer < 5; writer++) {
            knowledgeIs("forgotten", "0 0 0 3 0", x, writer, 1);
        }
        for (int store = 0; store < 3; store++) {
            vectorIs("forgotten", "0 0 0 " + (store + 1) + " 0", x, store, 1);
            siblingsAre("siblings stay", "3:" + (store + 1) + "=5", x, store, 1);
        }
        CHECK.equal("its count of writes", 3, x.key(1, 4));
        CHECK.equal("writings so far stay", 5, x.count(2));
        knowledgeIs("another key stays", "1 0 0 0 0", x, 0, 0);
        vectorIs("another key stays", "1 0 0 0 0", x, 0, 0);
        x.write(0, 1, 0, 9);
        CHECK.equal("it counts from 1 again", 1, x.knows(0, 1, 0));
    }
}
