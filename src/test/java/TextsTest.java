/** Promises 9 to 13: the buffer, its errors, doing what it tells, and undo. */
public final class TextsTest {
    private static final String PART = "w0k0s0=1;";
    private static final Checks CHECK = new Checks();

    public static void main(String[] args) {
        append();
        clearBuffer();
        firstErrorInReadings();
        firstErrorInWritings();
        firstErrorAtEveryPlace();
        firstErrorChangesNothing();
        runAll();
        runAllStopsAtARefusal();
        runAllStopsAtTheFirstPart();
        runAllAtMost999Times();
        runAllRefusals();
        undo();
        undoDropsTheOldest();
        undoRestoresAll();
        undoLeavesTheBuffer();
        whatSaves();
        CHECK.finish();
    }

    private static void append() {
        SiblingJoins x = new SiblingJoins();
        CHECK.equal("code 33", 1, x.append(33));
        CHECK.equal("code 126", 2, x.append(126));
        CHECK.noArgument("code 32", x, () -> x.append(32));
        CHECK.noArgument("code 127", x, () -> x.append(127));
        CHECK.noArgument("code -1", x, () -> x.append(-1));
        CHECK.noArgument("greatest int", x, () -> x.append(Integer.MAX_VALUE));
        CHECK.noArgument("least int", x, () -> x.append(Integer.MIN_VALUE));
        for (int length = 3; length <= 60; length++) {
            CHECK.equal("new length", length, x.append('r'));
        }
        CHECK.noState("character 61", x, () -> x.append('r'));
        CHECK.noArgument("code ahead of the full buffer", x, () -> x.append(32));
        CHECK.equal("nothing is saved", 0, x.count(7));
        CHECK.equal("60 characters", 60, x.clearBuffer());
        CHECK.equal("room again", 1, x.append('r'));
    }

    private static void clearBuffer() {
        SiblingJoins x = new SiblingJoins();
        CHECK.equal("empty", 0, x.clearBuffer());
        Checks.type(x, "r0k");
        CHECK.equal("three", 3, x.clearBuffer());
        CHECK.equal("empty again", 0, x.clearBuffer());
        CHECK.equal("nothing is saved", 0, x.count(7));
    }

    private static void errorAt(String text, int due) {
        SiblingJoins x = new SiblingJoins();
        Checks.type(x, text);
        CHECK.equal("first error of " + text, due, x.firstError());
    }

    private static void firstErrorInReadings() {
        errorAt("", 0);
        errorAt("r", 1);
        errorAt("r4k2s2", 6);
        errorAt("r4k2s2;", 7);
        errorAt("r4k2s2;r0k0s0", 13);
        errorAt("x", 0);
        errorAt("R", 0);
        errorAt(";", 0);
        errorAt("r5", 1);
        errorAt("r/", 1);
        errorAt("r0s", 2);
        errorAt("r0k3", 3);
        errorAt("r0k0k", 4);
        errorAt("r0k0s3", 5);
        errorAt("r0k0s0=", 6);
        errorAt("r0k0s00", 6);
        errorAt("r0k0s0;;", 7);
        errorAt("r0k0s0;0", 7);
        errorAt("r0k0s0;r0k0s0;w5", 15);
        errorAt("xr5", 0);
    }

    private static void firstErrorInWritings() {
        errorAt("w", 1);
        errorAt("w0k0s0", 6);
        errorAt("w0k0s0=", 7);
        errorAt("w0k0s0=0", 8);
        errorAt("w0k0s0=9", 8);
        errorAt("w0k0s0=10", 9);
        errorAt("w0k0s0=99;", 10);
        errorAt("w0k0s0=0;w4k2s2=99;r0k0s0", 25);
        errorAt("w5", 1);
        errorAt("w0k3", 3);
        errorAt("w0k0s3", 5);
        errorAt("w0k0s0;", 6);
        errorAt("w0k0s0=;", 7);
        errorAt("w0k0s0=a", 7);
        errorAt("w0k0s0=00", 8);
        errorAt("w0k0s0=01", 8);
        errorAt("w0k0s0=1:", 8);
        errorAt("w0k0s0=1/", 8);
        errorAt("w0k0s0=1w", 8);
        errorAt("w0k0s0=100", 9);
        errorAt("w0k0s0=999", 9);
        errorAt("w0k0s0=10w", 9);
        errorAt("w0k0s0=7;w0k0s0=00", 17);
        errorAt("r0k0s0;w0k0s0;", 13);
    }

    /** Every printable character at every place of a text, against a plain table of what may stand there. */
    private static void firstErrorAtEveryPlace() {
        String[] may = {"rw", "01234", "k", "012", "s", "012", "=", "0123456789", ";0123456789", ";0123456789", ";rw"};
        String text = "w3k1s2=47;";
        for (int place = 0; place <= 9; place++) {
            for (int code = 33; code <= 126; code++) {
                SiblingJoins x = new SiblingJoins();
                Checks.type(x, text.substring(0, place));
                x.append(code);
                boolean good = may[place].indexOf(code) >= 0 && !(place == 9 && code != ';');
                CHECK.equal("code " + code + " at " + place, good ? place + 1 : place, x.firstError());
            }
        }
    }

    private static void firstErrorChangesNothing() {
        SiblingJoins x = new SiblingJoins();
        Checks.type(x, "w0k0s0=4");
        long before = x.digest();
        x.firstError();
        CHECK.equal("digest", before, x.digest());
        CHECK.equal("still 8 characters", 8, x.clearBuffer());
    }

    private static void runAll() {
        SiblingJoins x = new SiblingJoins();
        Checks.type(x, "w0k1s2=0;r3k1s2;w3k1s2=10;w0k0s0=99");
        CHECK.equal("four parts", 4, x.runAll());
        CHECK.equal("read, then replaced", "3:1=10", Checks.siblings(x, 2, 1));
        CHECK.equal("two digits", "0:1=99", Checks.siblings(x, 0, 0));
        CHECK.equal("knowledge by reading", "1 0 0 1 0", Checks.knowledge(x, 3, 1));
        CHECK.equal("writings", 3, x.count(2));
        CHECK.equal("dropped", 1, x.count(3));
        CHECK.equal("the buffer is cleared", 0, x.clearBuffer());
        CHECK.equal("saved as one call", 1, x.count(7));
        CHECK.equal("undone as one call", 0, x.undo());
        CHECK.equal("nothing is left", 0, x.count(0));
        Checks.type(x, "w4k2s1=5");
        CHECK.equal("one part", 1, x.runAll());
        CHECK.equal("one digit", "4:1=5", Checks.siblings(x, 1, 2));
        Checks.type(x, "r0k0s0");
        CHECK.equal("one reading", 1, x.runAll());
    }

    private static void runAllStopsAtARefusal() {
        SiblingJoins x = new SiblingJoins();
        for (int writer = 0; writer < 3; writer++) {
            x.write(writer, 0, 0, 1);
        }
        Checks.type(x, "r4k0s0;w3k0s0=1;w4k1s0=2;w4k0s0=3;w0k0s0=7");
        CHECK.equal("what was read is replaced", 5, x.runAll());
        CHECK.equal("siblings", "0:2=7 3:1=1 4:1=3", Checks.siblings(x, 0, 0));
        x.write(1, 0, 0, 8);
        Checks.type(x, "r3k0s0;w2k0s0=9;w0k0s0=5;w1k1s1=6");
        CHECK.equal("up to the fifth sibling", 1, x.runAll());
        CHECK.equal("what is ahead of it is done", "2 2 1 1 1", Checks.knowledge(x, 3, 0));
        CHECK.equal("what is behind it is not", "", Checks.siblings(x, 1, 1));
        CHECK.equal("nor the own one", "0:2=7 1:2=8 3:1=1 4:1=3", Checks.siblings(x, 0, 0));
        CHECK.equal("the buffer is cleared all the same", 0, x.clearBuffer());
    }

    private static void runAllStopsAtTheFirstPart() {
        SiblingJoins x = new SiblingJoins();
        for (int writer = 0; writer < 4; writer++) {
            x.write(writer, 0, 0, 1);
        }
        Checks.type(x, "w4k0s0=0;r0k0s0");
        CHECK.equal("no part is done", 0, x.runAll());
        CHECK.equal("saved also if nothing is done", 5, x.count(7));
        CHECK.equal("nothing was read", "1 0 0 0 0", Checks.knowledge(x, 0, 0));
        CHECK.equal("cleared", 0, x.clearBuffer());
        Checks.type(x, "r4k0s0;w4k0s0=0");
        CHECK.equal("who has read may write", 2, x.runAll());
    }

    /** Past the 512 calls that are promised. */
    private static void runAllAtMost999Times() {
        SiblingJoins x = new SiblingJoins();
        for (int i = 0; i < 998; i++) {
            x.write(0, 0, 0, 1);
        }
        Checks.type(x, "w0k0s0=2;w0k0s0=3;r1k0s0");
        CHECK.equal("one more write", 1, x.runAll());
        CHECK.equal("the last one", "0:999=2", Checks.siblings(x, 0, 0));
    }

    private static void runAllRefusals() {
        String[] texts = {"", "r", "r0", "r0k", "r0k0", "r0k0s", "r0k0s0;", "w0k0s0", "w0k0s0=", "w0k0s0=1;",
            "w0k0s0=00", "w0k0s0=100", "r0k0s0=1", "r0k0s0;r", "x", "r0k0s0;;r0k0s0", "r0k0s0x", "r5k0s0",
            "w0k0s0=1;w0k0s0=1;w0k0s0"};
        for (String text : texts) {
            SiblingJoins x = new SiblingJoins();
            x.write(1, 0, 0, 1);
            Checks.type(x, text);
            CHECK.noArgument("runAll of " + text, x, x::runAll);
            CHECK.equal("the buffer stays", text.length(), x.clearBuffer());
            CHECK.equal("nothing is saved", 1, x.count(7));
        }
        SiblingJoins x = new SiblingJoins();
        Checks.type(x, PART.repeat(6) + "r0k0s");
        CHECK.noArgument("59 characters", x, x::runAll);
        x.append('0');
        CHECK.equal("60 characters", 7, x.runAll());
    }

    private static void undo() {
        SiblingJoins x = new SiblingJoins();
        CHECK.noState("nothing to undo", x, x::undo);
        long start = x.digest();
        x.write(0, 0, 0, 1);
        long one = x.digest();
        x.write(1, 0, 0, 2);
        CHECK.equal("one is left", 1, x.undo());
        CHECK.equal("as after the first write", one, x.digest());
        CHECK.equal("none is left", 0, x.undo());
        CHECK.equal("as new", start, x.digest());
        CHECK.noState("nothing more", x, x::undo);
        CHECK.equal("its count begins anew", 0, x.write(0, 0, 0, 3));
        CHECK.equal("with the number 1", "0:1=3", Checks.siblings(x, 0, 0));
    }

    private static void undoDropsTheOldest() {
        SiblingJoins x = new SiblingJoins();
        for (int i = 1; i <= 9; i++) {
            x.write(0, 0, 0, i);
            CHECK.equal("saved states", Math.min(i, 6), x.count(7));
        }
        for (int left = 5; left >= 0; left--) {
            CHECK.equal("left", left, x.undo());
            CHECK.equal("back by one", 3 + left, x.vector(0, 0, 0));
        }
        CHECK.noState("the older ones are dropped", x, x::undo);
        x.write(0, 0, 0, 50);
        x.write(0, 0, 0, 51);
        x.undo();
        CHECK.equal("saved anew", "0:4=50", Checks.siblings(x, 0, 0));
    }

    private static SiblingJoins readyToChange() {
        SiblingJoins x = new SiblingJoins();
        x.write(0, 0, 0, 1);
        x.write(1, 0, 1, 2);
        x.write(2, 1, 2, 3);
        x.pull(2, 0, 0);
        x.join(3, 0, 2, 1);
        Checks.type(x, "r4k0s0;w4k0s0=3");
        return x;
    }

    /** Five states are saved ahead of each call, so that none is dropped and the digest tells all. */
    private static void undoRestoresAll() {
        SiblingJoins x = readyToChange();
        long before = x.digest();
        Runnable[] calls = {() -> x.read(4, 0, 2), () -> x.write(0, 0, 0, 9), () -> x.pull(2, 0, 0),
            () -> x.join(4, 0, 1, 2), () -> x.lose(3, 0), () -> x.forget(3, 2), x::pullAll};
        for (Runnable call : calls) {
            call.run();
            CHECK.equal("one more is saved", 6, x.count(7));
            CHECK.tell(before != x.digest(), "a call changed nothing");
            CHECK.equal("left", 5, x.undo());
            CHECK.equal("all is restored", before, x.digest());
        }
        x.runAll();
        x.undo();
        Checks.type(x, "r4k0s0;w4k0s0=3");
        CHECK.equal("restored after runAll", before, x.digest());
    }

    private static void undoLeavesTheBuffer() {
        SiblingJoins x = new SiblingJoins();
        Checks.type(x, "r0");
        x.write(0, 0, 0, 1);
        Checks.type(x, "k0s0");
        x.undo();
        CHECK.equal("the buffer stays", 6, x.firstError());
        x.runAll();
        x.undo();
        CHECK.equal("what was run does not come back", 0, x.clearBuffer());
    }

    private static void whatSaves() {
        SiblingJoins x = new SiblingJoins();
        x.read(0, 0, 0);
        x.pull(0, 1, 0);
        x.lose(0, 0);
        x.forget(0, 0);
        x.pullAll();
        CHECK.equal("each saves, also if it changes nothing", 5, x.count(7));
        Made.useAllThatSavesNothing(x);
        CHECK.equal("the others do not", 5, x.count(7));
    }
}
