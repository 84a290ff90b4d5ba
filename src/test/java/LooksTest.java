/** Promises 14 to 23: looks, and what would be. */
public final class LooksTest {
    private static final int[] OUTSIDE = {-1, Integer.MIN_VALUE, Integer.MAX_VALUE};
    private static final Checks CHECK = new Checks();

    public static void main(String[] args) {
        sibling();
        siblingRefusals();
        vector();
        knows();
        keySizes();
        keyUnlikeAndSums();
        keySameness();
        keyForgettable();
        keyRefusals();
        count();
        countRefusals();
        ifWritten();
        ifWrittenRefusals();
        ifPulled();
        ifPulledRefusals();
        whyNot();
        agreement();
        digestOfANewObject();
        digestListsAll();
        looksChangeNothing();
        CHECK.finish();
    }

    private static SiblingJoins some() {
        SiblingJoins x = new SiblingJoins();
        x.write(3, 1, 0, 33);
        x.write(1, 1, 0, 10);
        x.write(1, 1, 0, 11);
        x.pull(2, 0, 1);
        x.read(4, 1, 2);
        x.write(0, 1, 2, 5);
        return x;
    }

    private static void siblingIs(SiblingJoins x, int place, int[] due) {
        for (int what = 0; what <= 4; what++) {
            CHECK.equal("sibling " + place + " what " + what, due[what], x.sibling(2, 1, place, what));
        }
    }

    private static void sibling() {
        SiblingJoins x = some();
        siblingIs(x, 0, new int[] {0, 1, 5, 1, 4});
        siblingIs(x, 1, new int[] {1, 2, 11, 2 + 16, 1 + 4});
        siblingIs(x, 2, new int[] {3, 1, 33, 8 + 16, 1 + 4});
        siblingIs(x, 3, new int[] {-1, -1, -1, -1, -1});
        CHECK.equal("none at the store 1", SiblingJoins.NONE, x.sibling(1, 1, 0, 2));
        x.write(4, 1, 1, 44);
        x.write(4, 1, 1, 45);
        x.lose(4, 1);
        x.read(2, 1, 1);
        x.write(4, 1, 1, 46);
        CHECK.equal("a later number is not covered", 16, x.sibling(1, 1, 0, 3));
        CHECK.equal("a mask of all stores", 7, pulledEverywhere().sibling(1, 0, 0, 4));
    }

    private static SiblingJoins pulledEverywhere() {
        SiblingJoins x = new SiblingJoins();
        x.write(2, 0, 1, 8);
        x.pullAll();
        return x;
    }

    private static void siblingRefusals() {
        SiblingJoins x = some();
        CHECK.noIndex("sibling store 3", x, () -> x.sibling(3, 1, 4, 5));
        CHECK.noIndex("sibling key 3", x, () -> x.sibling(2, 3, 4, 5));
        CHECK.noArgument("sibling place 4", x, () -> x.sibling(2, 1, 4, 0));
        CHECK.noArgument("sibling what 5", x, () -> x.sibling(2, 1, 0, 5));
        CHECK.noArgument("what of a sibling that is not there", x, () -> x.sibling(1, 1, 3, 5));
        for (int wrong : OUTSIDE) {
            CHECK.noIndex("sibling store", x, () -> x.sibling(wrong, 1, wrong, wrong));
            CHECK.noIndex("sibling key", x, () -> x.sibling(2, wrong, wrong, wrong));
            CHECK.noArgument("sibling place", x, () -> x.sibling(2, 1, wrong, 0));
            CHECK.noArgument("sibling what", x, () -> x.sibling(2, 1, 0, wrong));
        }
    }

    private static void vector() {
        SiblingJoins x = some();
        int[] due = {1, 2, 0, 1, 0};
        for (int writer = 0; writer < 5; writer++) {
            CHECK.equal("vector of the store 2", due[writer], x.vector(2, 1, writer));
            CHECK.equal("vector of the store 1", 0, x.vector(1, 1, writer));
            CHECK.equal("vector of another key", 0, x.vector(2, 2, writer));
        }
        CHECK.noIndex("vector store 3", x, () -> x.vector(3, 1, 0));
        CHECK.noIndex("vector key 3", x, () -> x.vector(2, 3, 0));
        CHECK.noIndex("vector writer 5", x, () -> x.vector(2, 1, 5));
        for (int wrong : OUTSIDE) {
            CHECK.noIndex("vector store", x, () -> x.vector(wrong, 1, 0));
            CHECK.noIndex("vector key", x, () -> x.vector(2, wrong, 0));
            CHECK.noIndex("vector writer", x, () -> x.vector(2, 1, wrong));
        }
    }

    private static void knows() {
        SiblingJoins x = some();
        int[] due = {0, 2, 0, 1, 0};
        for (int other = 0; other < 5; other++) {
            CHECK.equal("who read knows", due[other], x.knows(4, 1, other));
            CHECK.equal("who neither read nor wrote", 0, x.knows(2, 1, other));
            CHECK.equal("of another key", 0, x.knows(4, 0, other));
        }
        CHECK.noIndex("knows writer 5", x, () -> x.knows(5, 1, 0));
        CHECK.noIndex("knows key 3", x, () -> x.knows(4, 3, 0));
        CHECK.noIndex("knows other 5", x, () -> x.knows(4, 1, 5));
        for (int wrong : OUTSIDE) {
            CHECK.noIndex("knows writer", x, () -> x.knows(wrong, 1, 0));
            CHECK.noIndex("knows key", x, () -> x.knows(4, wrong, 0));
            CHECK.noIndex("knows other", x, () -> x.knows(4, 1, wrong));
        }
    }

    private static void keySizes() {
        SiblingJoins x = some();
        CHECK.equal("at the store 0", 2, x.key(1, 0));
        CHECK.equal("at the store 1", 0, x.key(1, 1));
        CHECK.equal("at the store 2", 3, x.key(1, 2));
        CHECK.equal("of another key", 0, x.key(0, 2));
    }

    private static void keyUnlikeAndSums() {
        SiblingJoins x = some();
        CHECK.equal("the same at two stores is one", 3, x.key(1, 3));
        CHECK.equal("writes of all", 4, x.key(1, 4));
        x.write(0, 1, 1, 5);
        CHECK.equal("the same writer and value, another number", 4, x.key(1, 3));
        CHECK.equal("one write more", 5, x.key(1, 4));
        CHECK.equal("another key", 0, x.key(2, 3));
        CHECK.equal("at all stores it is one", 1, pulledEverywhere().key(0, 3));
    }

    private static void keySameness() {
        SiblingJoins x = pulledEverywhere();
        CHECK.equal("same siblings", 1, x.key(0, 5));
        CHECK.equal("same vectors", 1, x.key(0, 6));
        CHECK.equal("nothing is the same as nothing", 1, x.key(1, 5));
        x.write(2, 0, 2, 9);
        CHECK.equal("the store 2 is unlike", 0, x.key(0, 5));
        CHECK.equal("its vector too", 0, x.key(0, 6));
        x.pull(1, 2, 0);
        CHECK.equal("the store 0 is unlike", 0, x.key(0, 5));
        x.pull(0, 2, 0);
        CHECK.equal("same again", 1, x.key(0, 5));
        x.write(1, 2, 0, 4);
        x.write(3, 2, 0, 5);
        x.join(2, 2, 0, 0);
        x.pullAll();
        CHECK.equal("what was there once does not matter", 1, x.key(2, 5));
        SiblingJoins y = new SiblingJoins();
        y.write(0, 0, 0, 1);
        y.read(1, 0, 0);
        y.write(1, 0, 1, 2);
        y.write(1, 0, 2, 3);
        y.pull(1, 2, 0);
        y.pull(0, 2, 0);
        CHECK.equal("one sibling everywhere", 1, y.key(0, 5));
        y.write(2, 1, 0, 1);
        y.pullAll();
        y.read(3, 1, 0);
        y.write(3, 1, 1, 4);
        CHECK.equal("one vector more", 0, y.key(1, 6));
        for (int writer = 0; writer < 5; writer++) {
            SiblingJoins z = new SiblingJoins();
            z.write(writer, 2, 1, 1);
            CHECK.equal("one number is unlike", 0, z.key(2, 6));
        }
    }

    private static void keyForgettable() {
        SiblingJoins x = new SiblingJoins();
        CHECK.equal("nobody wrote", 0, x.key(0, 7));
        x.write(0, 0, 0, 1);
        x.write(1, 0, 0, 2);
        x.read(4, 0, 0);
        x.write(4, 0, 0, 3);
        CHECK.equal("unlike numbers", 0, x.key(0, 7));
        x.pull(1, 0, 0);
        CHECK.equal("one store lacks it", 0, x.key(0, 7));
        x.pull(2, 0, 0);
        CHECK.equal("both replaced ones", 3, x.key(0, 7));
        x.forget(0, 0);
        CHECK.equal("one is forgotten", 2, x.key(0, 7));
    }

    private static void keyRefusals() {
        SiblingJoins x = some();
        CHECK.noIndex("key 3", x, () -> x.key(3, 8));
        CHECK.noArgument("key what 8", x, () -> x.key(1, 8));
        for (int wrong : OUTSIDE) {
            CHECK.noIndex("key", x, () -> x.key(wrong, wrong));
            CHECK.noArgument("key what", x, () -> x.key(1, wrong));
        }
    }

    private static void countsAre(SiblingJoins x, int[] due) {
        for (int what = 0; what <= 7; what++) {
            CHECK.equal("count " + what, due[what], x.count(what));
        }
    }

    private static void count() {
        SiblingJoins x = some();
        countsAre(x, new int[] {5, 3, 4, 1, 0, 0, 0, 6});
        x.join(2, 1, 2, 0);
        countsAre(x, new int[] {3, 2, 5, 4, 0, 1, 0, 6});
        x.pull(0, 2, 1);
        countsAre(x, new int[] {2, 1, 5, 4, 2, 1, 0, 6});
        x.pullAll();
        x.forget(0, 1);
        countsAre(x, new int[] {3, 1, 5, 4, 2, 1, 1, 6});
        x.undo();
        countsAre(x, new int[] {3, 1, 5, 4, 2, 1, 0, 5});
        x.undo();
        x.undo();
        x.undo();
        countsAre(x, new int[] {5, 3, 4, 1, 0, 0, 0, 2});
        for (int place = 0; place < 9; place++) {
            SiblingJoins y = new SiblingJoins();
            y.write(0, place / 3, place % 3, 1);
            y.write(1, place / 3, place % 3, 1);
            countsAre(y, new int[] {2, 2, 2, 0, 0, 0, 0, 2});
        }
    }

    private static void countRefusals() {
        SiblingJoins x = some();
        CHECK.noArgument("count 8", x, () -> x.count(8));
        for (int wrong : OUTSIDE) {
            CHECK.noArgument("count", x, () -> x.count(wrong));
        }
    }

    private static void ifWritten() {
        SiblingJoins x = some();
        CHECK.equal("nothing there: dropped", 0, x.ifWritten(2, 1, 1, 0));
        CHECK.equal("nothing there: then", 1, x.ifWritten(2, 1, 1, 1));
        CHECK.equal("known ones: dropped", 2, x.ifWritten(4, 1, 2, 0));
        CHECK.equal("known ones: then", 2, x.ifWritten(4, 1, 2, 1));
        CHECK.equal("own one: dropped", 1, x.ifWritten(3, 1, 2, 0));
        CHECK.equal("own one: then", 3, x.ifWritten(3, 1, 2, 1));
        x.write(2, 1, 2, 7);
        x.lose(4, 1);
        CHECK.equal("refused: dropped", 0, x.ifWritten(4, 1, 2, 0));
        CHECK.equal("refused: then", 5, x.ifWritten(4, 1, 2, 1));
        CHECK.noState("it is refused", x, () -> x.write(4, 1, 2, 7));
    }

    private static void ifWrittenRefusals() {
        SiblingJoins x = some();
        CHECK.noIndex("ifWritten writer 5", x, () -> x.ifWritten(5, 1, 2, 2));
        CHECK.noIndex("ifWritten key 3", x, () -> x.ifWritten(4, 3, 2, 2));
        CHECK.noIndex("ifWritten store 3", x, () -> x.ifWritten(4, 1, 3, 2));
        CHECK.noArgument("ifWritten what 2", x, () -> x.ifWritten(4, 1, 2, 2));
        for (int wrong : OUTSIDE) {
            CHECK.noIndex("ifWritten writer", x, () -> x.ifWritten(wrong, 1, 2, wrong));
            CHECK.noIndex("ifWritten key", x, () -> x.ifWritten(4, wrong, 2, wrong));
            CHECK.noIndex("ifWritten store", x, () -> x.ifWritten(4, 1, wrong, wrong));
            CHECK.noArgument("ifWritten what", x, () -> x.ifWritten(4, 1, 2, wrong));
        }
    }

    private static void pulledIs(SiblingJoins x, int store, int other, int key, String due) {
        String got = x.ifPulled(store, other, key, 0) + " " + x.ifPulled(store, other, key, 1) + " "
            + x.ifPulled(store, other, key, 2);
        CHECK.equal("ifPulled " + store + " from " + other, due, got);
    }

    private static void ifPulled() {
        SiblingJoins x = some();
        pulledIs(x, 0, 2, 1, "0 1 3");
        pulledIs(x, 2, 0, 1, "0 0 3");
        pulledIs(x, 1, 2, 1, "0 3 3");
        pulledIs(x, 0, 1, 1, "0 0 2");
        pulledIs(x, 0, 1, 0, "0 0 0");
        x.write(4, 1, 2, 9);
        pulledIs(x, 0, 2, 1, "2 2 2");
        pulledIs(x, 2, 0, 1, "0 0 2");
        SiblingJoins y = new SiblingJoins();
        for (int writer = 0; writer < 4; writer++) {
            y.write(writer, 0, 0, 1);
        }
        for (int writer = 1; writer < 5; writer++) {
            y.write(writer, 0, 1, 2);
        }
        pulledIs(y, 0, 1, 0, "3 4 5");
        pulledIs(y, 1, 0, 0, "0 1 5");
        CHECK.noState("it would be refused", y, () -> y.pull(0, 1, 0));
    }

    private static void ifPulledRefusals() {
        SiblingJoins x = some();
        CHECK.noIndex("ifPulled store 3", x, () -> x.ifPulled(3, 3, 1, 3));
        CHECK.noIndex("ifPulled other 3", x, () -> x.ifPulled(0, 3, 1, 3));
        CHECK.noIndex("ifPulled key 3", x, () -> x.ifPulled(0, 0, 3, 3));
        CHECK.noArgument("ifPulled from itself", x, () -> x.ifPulled(1, 1, 1, 0));
        CHECK.noArgument("ifPulled what 3", x, () -> x.ifPulled(0, 1, 1, 3));
        for (int wrong : OUTSIDE) {
            CHECK.noIndex("ifPulled store", x, () -> x.ifPulled(wrong, 1, 1, wrong));
            CHECK.noIndex("ifPulled other", x, () -> x.ifPulled(1, wrong, 1, wrong));
            CHECK.noIndex("ifPulled key", x, () -> x.ifPulled(1, 1, wrong, wrong));
            CHECK.noArgument("ifPulled what", x, () -> x.ifPulled(0, 1, 1, wrong));
        }
    }

    private static void whyNot() {
        SiblingJoins x = some();
        CHECK.equal("never wrote", 0, x.whyNot(2, 1));
        CHECK.equal("a sibling at one store", 1, x.whyNot(0, 1));
        CHECK.equal("a sibling at two stores", 1, x.whyNot(1, 1));
        CHECK.equal("another key", 0, x.whyNot(0, 0));
        x.join(2, 1, 2, 0);
        CHECK.equal("replaced, but unlike numbers", 2, x.whyNot(0, 1));
        CHECK.equal("still at the store 0", 1, x.whyNot(1, 1));
        x.pull(0, 2, 1);
        CHECK.equal("unlike at the store 1 alone", 2, x.whyNot(1, 1));
        x.pull(1, 2, 1);
        CHECK.equal("can be", 0, x.whyNot(1, 1));
        CHECK.equal("the joiner", 1, x.whyNot(2, 1));
        x.undo();
        x.undo();
        x.pullAll();
        CHECK.equal("dropped from behind another", 0, x.whyNot(3, 1));
        CHECK.noIndex("whyNot writer 5", x, () -> x.whyNot(5, 1));
        CHECK.noIndex("whyNot key 3", x, () -> x.whyNot(0, 3));
        for (int wrong : OUTSIDE) {
            CHECK.noIndex("whyNot writer", x, () -> x.whyNot(wrong, 1));
            CHECK.noIndex("whyNot key", x, () -> x.whyNot(0, wrong));
        }
    }

    private static void agreement() {
        SiblingJoins x = new SiblingJoins();
        CHECK.equal("all agree", 1.0, x.agreement());
        x.write(0, 0, 0, 1);
        CHECK.equal("one store of a key is unlike", 7 / 9.0, x.agreement());
        x.write(0, 0, 1, 1);
        CHECK.equal("all stores of a key are unlike", 6 / 9.0, x.agreement());
        x.write(0, 1, 0, 1);
        x.write(0, 1, 1, 1);
        CHECK.equal("of two keys", 3 / 9.0, x.agreement());
        x.write(0, 2, 0, 1);
        CHECK.equal("one pair", 1 / 9.0, x.agreement());
        x.write(0, 2, 1, 1);
        CHECK.equal("no pair", 0.0, x.agreement());
        x.pullAll();
        CHECK.equal("all agree again", 1.0, x.agreement());
    }

    private static void digestOfANewObject() {
        long hash = 2719;
        for (int i = 0; i < 8; i++) {
            hash = 31 * hash;
        }
        for (int key = 0; key < 3; key++) {
            int[] numbers = {0, 0, 0, 0, 0, 1, 1, 0};
            for (int number : numbers) {
                hash = 31 * hash + number;
            }
            for (int i = 0; i < 15; i++) {
                hash = 31 * hash;
            }
            for (int writer = 0; writer < 5; writer++) {
                for (int i = 0; i < 7; i++) {
                    hash = 31 * hash;
                }
                hash = 31 * hash + 1;
            }
        }
        for (int i = 0; i < 9; i++) {
            hash = 31 * hash;
        }
        hash = 31 * hash + Double.doubleToLongBits(1.0);
        hash = 31 * hash;
        CHECK.equal("digest of a new object", hash, new SiblingJoins().digest());
    }

    private static long listed(SiblingJoins x, String buffer) {
        return DigestList.hash(DigestList.of(x, buffer));
    }

    private static void digestListsAll() {
        SiblingJoins x = some();
        CHECK.equal("digest", listed(x, ""), x.digest());
        Checks.type(x, "w~!");
        CHECK.equal("digest with a buffer", listed(x, "w~!"), x.digest());
        x.clearBuffer();
        CHECK.equal("digest after clearing", listed(x, ""), x.digest());
        for (int i = 0; i < 9; i++) {
            x.write(i % 5, i / 3, i % 3, i);
            CHECK.equal("digest as agreement falls", listed(x, ""), x.digest());
        }
        x.pullAll();
        CHECK.equal("digest of stores that agree", listed(x, ""), x.digest());
    }

    private static void looksChangeNothing() {
        SiblingJoins x = some();
        long before = x.digest();
        for (int a = 0; a < 3; a++) {
            for (int b = 0; b < 3; b++) {
                x.sibling(a, b, 0, 3);
                x.vector(a, b, 4);
                x.knows(4, a, b);
                x.key(a, 7);
                x.ifWritten(4, a, b, 0);
                x.ifPulled(a, (a + 1) % 3, b, 2);
                x.whyNot(a, b);
            }
        }
        x.agreement();
        CHECK.equal("digest", before, x.digest());
    }
}
