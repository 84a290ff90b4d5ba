/** Promises 1 to 8: a new object, reading, writing, pulling, joining, losing, forgetting. */
public final class StoresTest {
    private static final int[] OUTSIDE = {-1, Integer.MIN_VALUE, Integer.MAX_VALUE};
    private static final Checks CHECK = new Checks();

    public static void main(String[] args) {
        newObject();
        read();
        readRefusals();
        write();
        writeKeepsOrder();
        writeDropsOnlyWhatWasKnownAhead();
        writeRefusals();
        writeAtMost999Times();
        pull();
        pullMergesOnlyTheOneThatPulls();
        pullRefusals();
        join();
        joinByEachRule();
        joinRefusals();
        joinAtMost999Times();
        lose();
        forget();
        forgetRefusals();
        pullAll();
        pullAllOrder();
        pullAllRefused();
        CHECK.finish();
    }

    private static void newObject() {
        SiblingJoins x = new SiblingJoins();
        for (int key = 0; key < 3; key++) {
            for (int store = 0; store < 3; store++) {
                CHECK.equal("new siblings", "", Checks.siblings(x, store, key));
                CHECK.equal("new vector", "0 0 0 0 0", Checks.vector(x, store, key));
            }
            for (int writer = 0; writer < 5; writer++) {
                CHECK.equal("new knowledge", "0 0 0 0 0", Checks.knowledge(x, writer, key));
            }
        }
        for (int what = 0; what <= 7; what++) {
            CHECK.equal("new count", 0, x.count(what));
        }
        CHECK.equal("new buffer", 0, x.clearBuffer());
        CHECK.equal("NONE", -1, SiblingJoins.NONE);
    }

    private static void read() {
        SiblingJoins x = new SiblingJoins();
        CHECK.equal("read of nothing", 0, x.read(4, 2, 2));
        x.write(0, 1, 2, 7);
        x.write(1, 1, 2, 8);
        x.write(3, 1, 0, 9);
        CHECK.equal("read of two", 2, x.read(4, 1, 2));
        CHECK.equal("knowledge after read", "1 1 0 0 0", Checks.knowledge(x, 4, 1));
        CHECK.equal("other key after read", "0 0 0 0 0", Checks.knowledge(x, 4, 0));
        CHECK.equal("read of one", 1, x.read(4, 1, 0));
        CHECK.equal("knowledge is merged", "1 1 0 1 0", Checks.knowledge(x, 4, 1));
        CHECK.equal("read of none", 0, x.read(4, 1, 1));
        CHECK.equal("merged with zeros", "1 1 0 1 0", Checks.knowledge(x, 4, 1));
        CHECK.equal("store vector after reads", "1 1 0 0 0", Checks.vector(x, 2, 1));
        CHECK.equal("siblings after reads", "0:1=7 1:1=8", Checks.siblings(x, 2, 1));
        CHECK.equal("reads are no writings", 3, x.count(2));
    }

    private static void readRefusals() {
        SiblingJoins x = new SiblingJoins();
        x.write(0, 0, 0, 1);
        CHECK.noIndex("read writer 5", x, () -> x.read(5, 0, 0));
        CHECK.noIndex("read key 3", x, () -> x.read(0, 3, 0));
        CHECK.noIndex("read store 3", x, () -> x.read(0, 0, 3));
        for (int wrong : OUTSIDE) {
            CHECK.noIndex("read writer", x, () -> x.read(wrong, 0, 0));
            CHECK.noIndex("read key", x, () -> x.read(0, wrong, 0));
            CHECK.noIndex("read store", x, () -> x.read(0, 0, wrong));
        }
    }

    private static void write() {
        SiblingJoins x = new SiblingJoins();
        CHECK.equal("first write", 0, x.write(2, 0, 1, 0));
        CHECK.equal("write beside", 0, x.write(0, 0, 1, 99));
        CHECK.equal("siblings", "0:1=99 2:1=0", Checks.siblings(x, 1, 0));
        CHECK.equal("vector", "1 0 1 0 0", Checks.vector(x, 1, 0));
        CHECK.equal("who did not read knows only itself", "1 0 0 0 0", Checks.knowledge(x, 0, 0));
        CHECK.equal("own one is replaced", 1, x.write(2, 0, 1, 5));
        CHECK.equal("siblings then", "0:1=99 2:2=5", Checks.siblings(x, 1, 0));
        x.read(4, 0, 1);
        CHECK.equal("what was read is replaced", 2, x.write(4, 0, 1, 6));
        CHECK.equal("one is left", "4:1=6", Checks.siblings(x, 1, 0));
        CHECK.equal("knowledge", "1 0 2 0 1", Checks.knowledge(x, 4, 0));
        CHECK.equal("vector after", "1 0 2 0 1", Checks.vector(x, 1, 0));
        CHECK.equal("at another store nothing is there", 0, x.write(4, 0, 0, 7));
        CHECK.equal("the store's vector is merged with the knowledge", "1 0 2 0 2", Checks.vector(x, 0, 0));
        CHECK.equal("the other store stays", "4:1=6", Checks.siblings(x, 1, 0));
        CHECK.equal("other keys stay", "0 0 0 0 0", Checks.vector(x, 1, 1));
    }

    private static void writeKeepsOrder() {
        SiblingJoins x = new SiblingJoins();
        int[] writers = {3, 1, 4, 0};
        for (int writer : writers) {
            x.write(writer, 2, 0, 10 + writer);
        }
        CHECK.equal("ordered by writers", "0:1=10 1:1=11 3:1=13 4:1=14", Checks.siblings(x, 0, 2));
        CHECK.equal("one of four is replaced", 1, x.write(3, 2, 0, 50));
        CHECK.equal("still ordered", "0:1=10 1:1=11 3:2=50 4:1=14", Checks.siblings(x, 0, 2));
    }

    private static void writeDropsOnlyWhatWasKnownAhead() {
        SiblingJoins x = new SiblingJoins();
        x.write(0, 0, 0, 1);
        x.read(1, 0, 0);
        x.write(0, 0, 0, 2);
        CHECK.equal("read ahead of the second write", 0, x.write(1, 0, 0, 3));
        CHECK.equal("both stay", "0:2=2 1:1=3", Checks.siblings(x, 0, 0));
        x.lose(1, 0);
        CHECK.equal("own number is never lost", 1, x.write(1, 0, 0, 4));
        CHECK.equal("knowledge after loss", "0 2 0 0 0", Checks.knowledge(x, 1, 0));
        CHECK.equal("vector keeps the greater numbers", "2 2 0 0 0", Checks.vector(x, 0, 0));
    }

    private static void writeRefusals() {
        SiblingJoins x = Made.four(1, 2);
        CHECK.noState("a fifth sibling", x, () -> x.write(4, 2, 1, 0));
        CHECK.noIndex("write writer 5", x, () -> x.write(5, 2, 1, 0));
        CHECK.noIndex("write key 3", x, () -> x.write(4, 3, 1, 0));
        CHECK.noIndex("write store 3", x, () -> x.write(4, 2, 3, 0));
        CHECK.noArgument("write value 100", x, () -> x.write(0, 2, 1, 100));
        CHECK.noArgument("value ahead of state", x, () -> x.write(4, 2, 1, 100));
        for (int wrong : OUTSIDE) {
            CHECK.noIndex("writer ahead of value", x, () -> x.write(wrong, 2, 1, 100));
            CHECK.noIndex("key ahead of value", x, () -> x.write(4, wrong, 1, 100));
            CHECK.noIndex("store ahead of value", x, () -> x.write(4, 2, wrong, 100));
            CHECK.noArgument("write value", x, () -> x.write(4, 2, 1, wrong));
        }
        CHECK.equal("who replaces may write", 1, x.write(3, 2, 1, 0));
        CHECK.equal("elsewhere there is room", 0, x.write(4, 2, 0, 0));
    }

    /** Past the 512 calls that are promised; kept, since a number of 1000 has no place in a vector. */
    private static void writeAtMost999Times() {
        SiblingJoins x = new SiblingJoins();
        for (int i = 0; i < 999; i++) {
            x.write(0, 0, 0, i % 100);
        }
        CHECK.noState("write 1000", x, () -> x.write(0, 0, 0, 1));
        CHECK.noState("write 1000 elsewhere", x, () -> x.write(0, 0, 1, 1));
        CHECK.equal("the other key is free", 0, x.write(0, 1, 0, 1));
        CHECK.equal("number 999", "0:999=98", Checks.siblings(x, 0, 0));
        x.write(3, 0, 0, 1);
        CHECK.equal("another may write", "0:999=98 3:1=1", Checks.siblings(x, 0, 0));
    }

    private static void pull() {
        SiblingJoins x = new SiblingJoins();
        x.write(0, 0, 0, 10);
        CHECK.equal("a new one is taken", 0, x.pull(1, 0, 0));
        CHECK.equal("both have it", "0:1=10", Checks.siblings(x, 1, 0));
        CHECK.equal("again", 0, x.pull(1, 0, 0));
        CHECK.equal("what both have stays", "0:1=10", Checks.siblings(x, 1, 0));
        x.write(0, 0, 0, 20);
        x.write(4, 0, 1, 40);
        CHECK.equal("the replaced one is dropped", 1, x.pull(1, 0, 0));
        CHECK.equal("the unseen one stays", "0:2=20 4:1=40", Checks.siblings(x, 1, 0));
        CHECK.equal("nothing is dropped", 0, x.pull(0, 1, 0));
        CHECK.equal("the unseen one comes", "0:2=20 4:1=40", Checks.siblings(x, 0, 0));
        x.read(2, 0, 1);
        x.write(2, 0, 1, 30);
        CHECK.equal("what this store has replaced does not come back", 0, x.pull(1, 0, 0));
        CHECK.equal("siblings of the one that replaced", "2:1=30", Checks.siblings(x, 1, 0));
        CHECK.equal("all are dropped", 2, x.pull(0, 1, 0));
        CHECK.equal("the replacing one", "2:1=30", Checks.siblings(x, 0, 0));
        CHECK.equal("dropped by pulls", 3, x.count(4));
    }

    private static void pullMergesOnlyTheOneThatPulls() {
        SiblingJoins x = new SiblingJoins();
        x.write(3, 1, 2, 5);
        x.write(1, 1, 0, 6);
        x.write(1, 1, 0, 7);
        x.write(3, 0, 0, 8);
        x.pull(2, 0, 1);
        CHECK.equal("ordered and merged", "1:2=7 3:1=5", Checks.siblings(x, 2, 1));
        CHECK.equal("merged vector", "0 2 0 1 0", Checks.vector(x, 2, 1));
        CHECK.equal("the other's vector stays", "0 2 0 0 0", Checks.vector(x, 0, 1));
        CHECK.equal("the other's siblings stay", "1:2=7", Checks.siblings(x, 0, 1));
        CHECK.equal("other keys stay", "", Checks.siblings(x, 2, 0));
        CHECK.equal("nobody reads by it", "0 0 0 1 0", Checks.knowledge(x, 3, 1));
    }

    private static void pullRefusals() {
        SiblingJoins x = Made.four(0, 1);
        x.write(4, 1, 2, 9);
        CHECK.noState("five by pulling", x, () -> x.pull(0, 2, 1));
        CHECK.noState("five by pulling back", x, () -> x.pull(2, 0, 1));
        CHECK.noArgument("pull from itself", x, () -> x.pull(2, 2, 1));
        CHECK.noIndex("pull store 3 from 3", x, () -> x.pull(3, 3, 1));
        CHECK.noIndex("pull from 3", x, () -> x.pull(0, 3, 1));
        CHECK.noIndex("pull key 3", x, () -> x.pull(0, 2, 3));
        CHECK.noIndex("key ahead of the same store", x, () -> x.pull(2, 2, 3));
        for (int wrong : OUTSIDE) {
            CHECK.noIndex("pull store", x, () -> x.pull(wrong, 0, 1));
            CHECK.noIndex("pull other", x, () -> x.pull(0, wrong, 1));
            CHECK.noIndex("pull both", x, () -> x.pull(wrong, wrong, 1));
            CHECK.noIndex("pull key", x, () -> x.pull(0, 2, wrong));
        }
        CHECK.equal("four fit", 0, x.pull(1, 0, 1));
        CHECK.equal("four are there", 4, x.key(1, 1));
    }

    private static void join() {
        SiblingJoins x = Made.four(0, 0);
        CHECK.equal("the greatest", 3, x.join(4, 0, 0, 0));
        CHECK.equal("one is left", "4:1=3", Checks.siblings(x, 0, 0));
        CHECK.equal("the writer has read", "1 1 1 1 1", Checks.knowledge(x, 4, 0));
        CHECK.equal("the vector", "1 1 1 1 1", Checks.vector(x, 0, 0));
        CHECK.equal("writings", 5, x.count(2));
        CHECK.equal("dropped by it", 4, x.count(3));
        CHECK.equal("joins", 1, x.count(5));
        CHECK.equal("one call is saved", 5, x.count(7));
        CHECK.equal("undone as one call", 4, x.undo());
        CHECK.equal("back", "0:1=0 1:1=1 2:1=2 3:1=3", Checks.siblings(x, 0, 0));
        CHECK.equal("knowledge back", "0 0 0 0 0", Checks.knowledge(x, 4, 0));
        CHECK.equal("joins back", 0, x.count(5));
    }

    private static SiblingJoins threeValues() {
        SiblingJoins x = new SiblingJoins();
        x.write(4, 2, 1, 30);
        x.write(1, 2, 1, 60);
        x.write(3, 2, 1, 95);
        return x;
    }

    private static void joinByEachRule() {
        CHECK.equal("rule 0", 95, threeValues().join(0, 2, 1, 0));
        CHECK.equal("rule 1", 30, threeValues().join(0, 2, 1, 1));
        CHECK.equal("rule 2", 85, threeValues().join(0, 2, 1, 2));
        CHECK.equal("rule 3", 60, threeValues().join(0, 2, 1, 3));
        SiblingJoins x = threeValues();
        x.join(1, 2, 1, 2);
        CHECK.equal("by one of them", "1:2=85", Checks.siblings(x, 1, 2));
        CHECK.equal("of one sibling", 85, x.join(1, 2, 1, 3));
        CHECK.equal("its number grows", "1:3=85", Checks.siblings(x, 1, 2));
        SiblingJoins hundred = new SiblingJoins();
        hundred.write(0, 0, 0, 99);
        hundred.write(1, 0, 0, 1);
        CHECK.equal("a sum of 100", 0, hundred.join(2, 0, 0, 2));
    }

    private static void joinRefusals() {
        SiblingJoins x = threeValues();
        CHECK.noState("nothing to join", x, () -> x.join(0, 2, 0, 0));
        CHECK.noArgument("rule 4", x, () -> x.join(0, 2, 1, 4));
        CHECK.noArgument("rule ahead of state", x, () -> x.join(0, 2, 0, 4));
        CHECK.noIndex("join writer 5", x, () -> x.join(5, 2, 1, 4));
        CHECK.noIndex("join key 3", x, () -> x.join(0, 3, 1, 4));
        CHECK.noIndex("join store 3", x, () -> x.join(0, 2, 3, 4));
        for (int wrong : OUTSIDE) {
            CHECK.noIndex("join writer", x, () -> x.join(wrong, 2, 1, 0));
            CHECK.noIndex("join key", x, () -> x.join(0, wrong, 1, 0));
            CHECK.noIndex("join store", x, () -> x.join(0, 2, wrong, 0));
            CHECK.noArgument("join rule", x, () -> x.join(0, 2, 1, wrong));
        }
    }

    /** Past the 512 calls that are promised, as above. */
    private static void joinAtMost999Times() {
        SiblingJoins x = new SiblingJoins();
        x.write(2, 0, 0, 1);
        for (int i = 0; i < 998; i++) {
            x.join(2, 0, 0, 0);
        }
        CHECK.noState("join 1000", x, () -> x.join(2, 0, 0, 0));
        CHECK.equal("another may join", 1, x.join(3, 0, 0, 0));
    }

    private static void lose() {
        SiblingJoins x = Made.four(0, 0);
        x.write(1, 0, 0, 5);
        x.read(1, 0, 0);
        x.write(1, 1, 0, 6);
        CHECK.equal("knowledge ahead", "1 2 1 1 0", Checks.knowledge(x, 1, 0));
        CHECK.equal("the others' numbers", 3, x.lose(1, 0));
        CHECK.equal("its own stays", "0 2 0 0 0", Checks.knowledge(x, 1, 0));
        CHECK.equal("nothing more to lose", 0, x.lose(1, 0));
        CHECK.equal("the other key stays", "0 1 0 0 0", Checks.knowledge(x, 1, 1));
        CHECK.equal("stores stay", "1 2 1 1 0", Checks.vector(x, 0, 0));
        CHECK.equal("also a loss of nothing is saved", 6, x.count(7));
        CHECK.noIndex("lose writer 5", x, () -> x.lose(5, 0));
        CHECK.noIndex("lose key 3", x, () -> x.lose(0, 3));
        for (int wrong : OUTSIDE) {
            CHECK.noIndex("lose writer", x, () -> x.lose(wrong, 0));
            CHECK.noIndex("lose key", x, () -> x.lose(0, wrong));
        }
    }

    private static SiblingJoins oneReplacedEverywhere() {
        SiblingJoins x = new SiblingJoins();
        x.write(0, 1, 0, 1);
        x.write(0, 1, 0, 2);
        x.read(3, 1, 0);
        x.write(3, 1, 0, 3);
        x.write(0, 2, 0, 4);
        x.pull(1, 0, 1);
        x.pull(2, 0, 1);
        return x;
    }

    private static void forget() {
        SiblingJoins x = oneReplacedEverywhere();
        CHECK.equal("written twice", 2, x.forget(0, 1));
        for (int store = 0; store < 3; store++) {
            CHECK.equal("its number in the vectors", "0 0 0 1 0", Checks.vector(x, store, 1));
        }
        CHECK.equal("its number in another's knowledge", "0 0 0 1 0", Checks.knowledge(x, 3, 1));
        CHECK.equal("its number in its own", "0 0 0 0 0", Checks.knowledge(x, 0, 1));
        CHECK.equal("its count of writes", 1, x.key(1, 4));
        CHECK.equal("other keys stay", "1 0 0 0 0", Checks.knowledge(x, 0, 2));
        CHECK.equal("forgotten so far", 1, x.count(6));
        CHECK.equal("writes are still counted", 4, x.count(2));
        CHECK.equal("forgotten once more", 0, x.forget(0, 1));
        CHECK.equal("one that never wrote", 0, x.forget(4, 1));
        CHECK.equal("each counts", 3, x.count(6));
        CHECK.equal("it begins anew", 0, x.write(0, 1, 1, 9));
        CHECK.equal("with the number 1", "0:1=9 3:1=3", Checks.siblings(x, 1, 1));
        SiblingJoins y = oneReplacedEverywhere();
        y.read(0, 1, 1);
        y.forget(0, 1);
        CHECK.equal("what it knows of others stays", "0 0 0 1 0", Checks.knowledge(y, 0, 1));
    }

    private static void forgetRefusals() {
        SiblingJoins x = oneReplacedEverywhere();
        CHECK.noState("stores have a sibling of it", x, () -> x.forget(3, 1));
        x.write(1, 0, 2, 1);
        x.read(2, 0, 2);
        x.write(2, 0, 2, 2);
        CHECK.equal("no sibling of it", "2:1=2", Checks.siblings(x, 2, 0));
        CHECK.noState("unlike numbers", x, () -> x.forget(1, 0));
        CHECK.noIndex("forget writer 5", x, () -> x.forget(5, 1));
        CHECK.noIndex("forget key 3", x, () -> x.forget(3, 3));
        for (int wrong : OUTSIDE) {
            CHECK.noIndex("forget writer", x, () -> x.forget(wrong, 1));
            CHECK.noIndex("forget key", x, () -> x.forget(0, wrong));
        }
    }

    private static void pullAll() {
        SiblingJoins x = new SiblingJoins();
        CHECK.equal("nothing to pull", 0, x.pullAll());
        x.write(0, 0, 0, 1);
        x.write(1, 1, 1, 2);
        x.write(2, 2, 2, 3);
        CHECK.equal("all is new", 0, x.pullAll());
        for (int store = 0; store < 3; store++) {
            CHECK.equal("key 0", "0:1=1", Checks.siblings(x, store, 0));
            CHECK.equal("key 1", "1:1=2", Checks.siblings(x, store, 1));
            CHECK.equal("key 2", "2:1=3", Checks.siblings(x, store, 2));
        }
        x.write(0, 0, 1, 4);
        x.write(2, 2, 2, 5);
        CHECK.equal("two others drop each", 4, x.pullAll());
        CHECK.equal("dropped by pulls", 4, x.count(4));
        CHECK.equal("saved as one call", 6, x.count(7));
        x.undo();
        CHECK.equal("undone as one call", "0:1=1", Checks.siblings(x, 2, 0));
        CHECK.equal("counts undone", 0, x.count(4));
        x.pull(0, 1, 0);
        CHECK.equal("without what was dropped ahead of it", 3, x.pullAll());
        CHECK.equal("all together", 4, x.count(4));
    }

    /** By the order of the pulls, the store 1 has its number 1 dropped once, and never gets another back. */
    private static void pullAllOrder() {
        SiblingJoins x = new SiblingJoins();
        x.write(0, 0, 0, 1);
        x.write(0, 0, 1, 2);
        x.write(0, 0, 2, 3);
        CHECK.equal("the store 0 drops 1, then 2; the store 1 drops 2", 3, x.pullAll());
        SiblingJoins y = new SiblingJoins();
        y.write(0, 0, 2, 1);
        y.write(0, 0, 1, 2);
        y.write(0, 0, 0, 3);
        CHECK.equal("the stores 1 and 2 drop one each", 2, y.pullAll());
    }

    private static void pullAllRefused() {
        SiblingJoins x = Made.four(0, 2);
        x.write(0, 0, 0, 1);
        x.write(4, 2, 2, 9);
        CHECK.noState("five somewhere", x, x::pullAll);
        CHECK.equal("the earlier keys are not pulled", "", Checks.siblings(x, 1, 0));
        x.undo();
        CHECK.equal("then all fit", 0, x.pullAll());
        CHECK.equal("four at the store 2", 4, x.key(2, 2));
    }
}
