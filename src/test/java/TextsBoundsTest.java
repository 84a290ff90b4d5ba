import java.util.HashSet;
import java.util.Set;

/**
 * The sentences on input text and undo, and promises 9 to 13, at their bounds. All parts that a text can have are
 * written out once, so that "no writes as a text begin with" is looked up in them and not worked out.
 */
public final class TextsBoundsTest {
    private static final String SIXTY = "r0k0s0;".repeat(7) + "w1k1s1=77;r";
    private static final Set<String> PARTS = new HashSet<>();
    private static final Set<String> BEGINNINGS = new HashSet<>();
    private static final Checks CHECK = new Checks();

    public static void main(String[] args) {
        listParts();
        appendAnswersTheLength();
        appendTakesEachCode();
        appendIsRefusedByAFullBuffer();
        clearBufferAnswersTheLength();
        eachPartIsDone();
        noOtherPartIsDone();
        eachCharacterAtEachPlace();
        errorsInAFullBuffer();
        anErrorThatStandsLast();
        runAllNeedsCompleteWrites();
        runAllOfAFullBuffer();
        runAllGoesByOrder();
        runAllUpToTheFirstRefusal();
        runAllOfNothing();
        runAllIsSavedAsOneCall();
        undoOfNothing();
        undoAtMostSix();
        undoDropsWhatItRestores();
        undoOfCallsThatChangeNothing();
        undoRestoresTheCounts();
        undoRestoresWhatWasForgotten();
        undoLeavesTheBuffer();
        refusedCallsAreNotSaved();
        looksAndTextsAreNotSaved();
        CHECK.finish();
    }

    private static void listParts() {
        for (int place = 0; place < 45; place++) {
            String where = place / 9 + "k" + place / 3 % 3 + "s" + place % 3;
            PARTS.add("r" + where);
            for (int value = 0; value <= 99; value++) {
                PARTS.add("w" + where + "=" + value);
            }
        }
        for (String part : PARTS) {
            for (int length = 0; length <= part.length(); length++) {
                BEGINNINGS.add(part.substring(0, length));
            }
        }
        CHECK.equal("parts", 45 + 4500, PARTS.size());
    }

    private static boolean begins(String text) {
        String[] parts = text.split(";", -1);
        for (int i = 0; i < parts.length - 1; i++) {
            if (!PARTS.contains(parts[i])) {
                return false;
            }
        }
        return BEGINNINGS.contains(parts[parts.length - 1]);
    }

    /** "The buffer has at most 60 characters.", "Returns the new length of the buffer." */
    private static void appendAnswersTheLength() {
        SiblingJoins x = new SiblingJoins();
        for (int length = 1; length <= 60; length++) {
            CHECK.equal("new length", length, x.append(32 + length));
        }
        CHECK.noState("character 61", x, () -> x.append(33));
        CHECK.equal("60 stay", 60, x.clearBuffer());
        CHECK.equal("then there is room", 1, x.append(126));
    }

    /** "the character code, 33 to 126" */
    private static void appendTakesEachCode() {
        SiblingJoins x = new SiblingJoins();
        for (int code = 33; code <= 126; code++) {
            CHECK.equal("code " + code, 1, x.append(code));
            CHECK.equal("it is kept", DigestList.hash(DigestList.of(x, "" + (char) code)), x.digest());
            x.clearBuffer();
        }
        int[] outside = {32, 127, 0, -1, 10, 128, 255, 33 + 256, 126 - 256, 65536 + 33};
        for (int code : outside) {
            CHECK.noArgument("code " + code, x, () -> x.append(code));
        }
        CHECK.equal("nothing is appended", 0, x.clearBuffer());
    }

    private static void appendIsRefusedByAFullBuffer() {
        SiblingJoins x = Made.typed(SIXTY.substring(1));
        CHECK.noArgument("code ahead of room, with room", x, () -> x.append(32));
        CHECK.equal("the last place", 60, x.append(126));
        CHECK.noState("no room", x, () -> x.append(126));
        CHECK.noArgument("the code is looked at first", x, () -> x.append(127));
        CHECK.equal("digest of a full buffer", DigestList.hash(DigestList.of(x, SIXTY.substring(1) + "~")), x.digest());
    }

    /** "Returns the length that it had." */
    private static void clearBufferAnswersTheLength() {
        for (int length = 0; length <= 60; length++) {
            SiblingJoins x = Made.typed(SIXTY.substring(0, length));
            CHECK.equal("length", length, x.clearBuffer());
            CHECK.equal("then none", 0, x.clearBuffer());
            CHECK.equal("no error is left", 0, x.firstError());
            CHECK.equal("as new", new SiblingJoins().digest(), x.digest());
        }
    }

    /** "r" or "w", a writer, 0 to 4, "k", a key, 0 to 2, "s", a store, 0 to 2, and for "w" also "=" and a value" */
    private static void eachPartIsDone() {
        for (String part : PARTS) {
            SiblingJoins x = Made.typed(part);
            CHECK.equal("no error in " + part, part.length(), x.firstError());
            CHECK.equal("done: " + part, 1, x.runAll());
            SiblingJoins y = new SiblingJoins();
            int writer = part.charAt(1) - '0';
            int key = part.charAt(3) - '0';
            int store = part.charAt(5) - '0';
            if (part.charAt(0) == 'r') {
                y.read(writer, key, store);
            } else {
                y.write(writer, key, store, Integer.parseInt(part.substring(7)));
            }
            CHECK.equal("as by the call: " + part, y.digest(), x.digest());
            CHECK.equal("value of " + part, y.sibling(store, key, 0, 2), x.sibling(store, key, 0, 2));
        }
        SiblingJoins read = Made.four(2, 1);
        Checks.type(read, "r4k1s2");
        read.runAll();
        CHECK.equal("a reading reads", "1 1 1 1 0", Checks.knowledge(read, 4, 1));
    }

    /** "one or more parts with ";" between them" */
    private static void noOtherPartIsDone() {
        String[] others = {"", ";", "r0k0s0;", ";r0k0s0", "r0k0s0;;r0k0s0", "r0k0s0,r0k0s0", "r0k0s0r0k0s0", "r5k0s0",
            "r0k3s0", "r0k0s3", "w5k0s0=1", "w0k3s0=1", "w0k0s3=1", "w0k0s0=100", "w0k0s0=00", "w0k0s0=01",
            "w0k0s0=09", "w0k0s0=-1", "w0k0s0=+1", "w0k0s0=", "w0k0s0", "r0k0s0=1", "R0k0s0", "W0k0s0=1", "r00k0s0",
            "r0k00s0", "r0k0s00", "rk0s0", "r0s0k0", "0k0s0", "w0k0s0==1", "w0k0s0:1", "x0k0s0"};
        for (String other : others) {
            SiblingJoins x = Made.typed(other);
            CHECK.noArgument("not a part: " + other, x, x::runAll);
            CHECK.equal("the buffer stays", other.length(), x.clearBuffer());
        }
    }

    /**
     * "a character is a syntax error if no writes as a text, of any length, begin with the characters before it and
     * this character"
     */
    private static void eachCharacterAtEachPlace() {
        String[] texts = {"r0k0s0;r4k2s2", "r2k1s1;w0k0s0=0", "w4k2s2=0;w0k1s2=9", "w1k0s1=10;r0k0s0",
            "w3k1s2=99;w3k1s2=47;", "w2k2s0=5;r3k0s2;"};
        for (String text : texts) {
            for (int place = 0; place <= text.length(); place++) {
                String before = text.substring(0, place);
                CHECK.tell(begins(before), "a wrong text in this test: " + before);
                SiblingJoins x = Made.typed(before);
                CHECK.equal("no error in " + before, place, x.firstError());
                eachCharacterBehind(before, text.substring(place));
            }
        }
    }

    /** What stands behind the character changes nothing, whether it is right or wrong. */
    private static void eachCharacterBehind(String before, String behind) {
        for (int code = 33; code <= 126; code++) {
            String text = before + (char) code;
            int due = begins(text) ? text.length() : before.length();
            SiblingJoins x = Made.typed(text);
            CHECK.equal("first error of " + text, due, x.firstError());
            if (due == before.length()) {
                Checks.type(x, behind + "!");
                CHECK.equal("first error of " + text + behind + "!", due, x.firstError());
            }
        }
    }

    /** "of any length": what cannot be ended within 60 characters is no error. */
    private static void errorsInAFullBuffer() {
        for (int last = 33; last <= 126; last++) {
            SiblingJoins x = Made.typed(SIXTY.substring(0, 59));
            CHECK.equal("59 characters", 59, x.firstError());
            x.append(last);
            CHECK.equal("the last place of 60", last == 'r' || last == 'w' ? 60 : 59, x.firstError());
            CHECK.noArgument("but not complete", x, x::runAll);
        }
        SiblingJoins wrong = Made.typed("~".repeat(60));
        CHECK.equal("the first of many", 0, wrong.firstError());
        SiblingJoins empty = new SiblingJoins();
        CHECK.equal("an empty buffer", 0, empty.firstError());
    }

    private static void anErrorThatStandsLast() {
        SiblingJoins x = Made.typed("w0k0s0=1");
        CHECK.equal("no error is the length", 8, x.firstError());
        x.append('x');
        CHECK.equal("an error at 8 is 8, too", 8, x.firstError());
        CHECK.noArgument("but one is refused", x, x::runAll);
        CHECK.equal("nothing is written", 0, x.count(2));
        x.clearBuffer();
        Checks.type(x, "w0k0s0=1");
        CHECK.equal("the other is not", 1, x.runAll());
    }

    /** "if the buffer is not complete writes as a text" */
    private static void runAllNeedsCompleteWrites() {
        String text = "r4k2s2;w4k2s2=10;r0k0s0;w0k0s0=0;w1k1s1=5";
        for (int length = 0; length <= text.length(); length++) {
            String begun = text.substring(0, length);
            SiblingJoins x = Made.typed(begun);
            int parts = 0;
            boolean complete = true;
            for (String part : begun.split(";", -1)) {
                parts++;
                complete &= PARTS.contains(part);
            }
            if (complete) {
                CHECK.equal("complete: " + begun, parts, x.runAll());
                CHECK.equal("cleared", 0, x.clearBuffer());
            } else {
                CHECK.noArgument("not complete: " + begun, x, x::runAll);
                CHECK.equal("not cleared", length, x.clearBuffer());
            }
            CHECK.equal("saved if it is done", complete ? 1 : 0, x.count(7));
        }
    }

    /** "Returns how many parts are done.": eight readings are the most that fit, six writings */
    private static void runAllOfAFullBuffer() {
        for (int parts = 1; parts <= 8; parts++) {
            SiblingJoins x = Made.typed("r0k0s0;".repeat(parts - 1) + "r4k2s2");
            CHECK.equal("readings", parts, x.runAll());
        }
        for (int parts = 1; parts <= 6; parts++) {
            SiblingJoins x = Made.typed("w0k0s0=1;".repeat(parts - 1) + "w4k0s0=2");
            CHECK.equal("writings", parts, x.runAll());
            CHECK.equal("each is counted", parts, x.count(2));
            CHECK.equal("those of one writer replace one another", Math.max(0, parts - 2), x.count(3));
        }
        SiblingJoins full = Made.typed("w0k0s0=11;".repeat(5) + "w0k0s0=123".substring(0, 9));
        CHECK.equal("59 characters", 59, full.firstError());
        CHECK.equal("six writings", 6, full.runAll());
        CHECK.equal("the last value has two digits", "0:6=12", Checks.siblings(full, 0, 0));
        SiblingJoins sixty = Made.typed("r0k0s0;".repeat(6) + "w1k1s1=77;w2k2s2=9");
        CHECK.equal("60 characters", 60, sixty.firstError());
        CHECK.equal("eight parts", 8, sixty.runAll());
        CHECK.equal("the last but one", "1:1=77", Checks.siblings(sixty, 1, 1));
        CHECK.equal("the last one", "2:1=9", Checks.siblings(sixty, 2, 2));
    }

    /** "one part after the other" */
    private static void runAllGoesByOrder() {
        SiblingJoins x = Made.some(1, 0, 0);
        Checks.type(x, "r1k0s0;w1k0s0=5");
        x.runAll();
        CHECK.equal("read ahead of writing", "1:1=5", Checks.siblings(x, 0, 0));
        SiblingJoins y = Made.some(1, 0, 0);
        Checks.type(y, "w1k0s0=5;r1k0s0");
        y.runAll();
        CHECK.equal("read after writing", "0:1=0 1:1=5", Checks.siblings(y, 0, 0));
        CHECK.equal("but read", "1 1 0 0 0", Checks.knowledge(y, 1, 0));
        SiblingJoins z = Made.typed("w2k0s0=0;w2k0s1=10;w2k0s2=99;w2k0s0=9");
        z.runAll();
        CHECK.equal("the first and the fourth number", "2:4=9", Checks.siblings(z, 0, 0));
        CHECK.equal("the second number", "2:2=10", Checks.siblings(z, 1, 0));
        CHECK.equal("the third number", "2:3=99", Checks.siblings(z, 2, 0));
    }

    /** "up to the first writing that would throw an exception, and clears the buffer" */
    private static void runAllUpToTheFirstRefusal() {
        for (int ahead = 0; ahead <= 6; ahead++) {
            SiblingJoins x = Made.four(0, 0);
            String good = "r1k0s0;".repeat(ahead);
            Checks.type(x, good + "w4k0s0=7;r3k0s0");
            CHECK.equal("parts ahead of it", ahead, x.runAll());
            CHECK.equal("nothing behind it", "0 0 0 1 0", Checks.knowledge(x, 3, 0));
            CHECK.equal("what is ahead of it", ahead > 0 ? "1 1 1 1 0" : "0 1 0 0 0", Checks.knowledge(x, 1, 0));
            CHECK.equal("the writer is not counted", 4, x.key(0, 4));
            CHECK.equal("nor knows of it", 0, x.knows(4, 0, 4));
            CHECK.equal("the buffer is cleared", 0, x.clearBuffer());
        }
        SiblingJoins y = Made.four(0, 0);
        Checks.type(y, "w4k0s1=7;w4k0s0=8;w0k0s0=9");
        CHECK.equal("a good one behind it is not done", 1, y.runAll());
        CHECK.equal("the store 0", "0:1=0 1:1=1 2:1=2 3:1=3", Checks.siblings(y, 0, 0));
        CHECK.equal("the store 1", "4:1=7", Checks.siblings(y, 1, 0));
        SiblingJoins z = Made.four(0, 0);
        Checks.type(z, "r4k0s0;w4k0s0=8;w0k0s0=9");
        CHECK.equal("what makes room is done", 3, z.runAll());
        CHECK.equal("both", "0:2=9 4:1=8", Checks.siblings(z, 0, 0));
    }

    /** "Undoable, as one call, also if nothing is done." */
    private static void runAllOfNothing() {
        SiblingJoins x = Made.four(2, 2);
        long before = x.digest();
        Checks.type(x, "w4k2s2=0");
        CHECK.equal("nothing is done", 0, x.runAll());
        CHECK.equal("saved", 5, x.count(7));
        CHECK.equal("cleared", 0, x.clearBuffer());
        CHECK.equal("undone", 4, x.undo());
        CHECK.equal("as before", before, x.digest());
    }

    private static void runAllIsSavedAsOneCall() {
        SiblingJoins x = Made.some(1, 0, 0);
        long before = x.digest();
        Checks.type(x, "w1k0s0=5;w2k1s1=6;r3k0s0;w3k0s0=7");
        CHECK.equal("four parts", 4, x.runAll());
        CHECK.equal("one state more", 2, x.count(7));
        CHECK.equal("undone at once", 1, x.undo());
        CHECK.equal("as before, with an empty buffer", before, x.digest());
    }

    /** "if there is none" */
    private static void undoOfNothing() {
        SiblingJoins x = new SiblingJoins();
        CHECK.noState("a new object", x, x::undo);
        x.read(0, 0, 0);
        CHECK.equal("one", 0, x.undo());
        CHECK.noState("no more", x, x::undo);
        Checks.type(x, "r0k0s0");
        CHECK.noState("a text is not saved", x, x::undo);
        x.runAll();
        CHECK.equal("what it does is", 0, x.undo());
    }

    /** "At most 6 states are saved; the oldest one is dropped first." */
    private static void undoAtMostSix() {
        for (int writes = 0; writes <= 20; writes++) {
            SiblingJoins x = new SiblingJoins();
            for (int i = 1; i <= writes; i++) {
                x.write(1, 1, 1, i);
                CHECK.equal("saved", Math.min(6, i), x.count(7));
            }
            int back = Math.min(6, writes);
            for (int left = back - 1; left >= 0; left--) {
                CHECK.equal("left", left, x.undo());
                int due = writes - back + left;
                CHECK.equal("the latest first", due == 0 ? "" : "1:" + due + "=" + due, Checks.siblings(x, 1, 1));
            }
            CHECK.noState("none is left", x, x::undo);
            CHECK.equal("the oldest that was saved", Math.max(0, writes - 6), x.vector(1, 1, 1));
        }
    }

    /** "Restores the latest saved state, and drops it.": what was undone cannot come back */
    private static void undoDropsWhatItRestores() {
        SiblingJoins x = new SiblingJoins();
        for (int round = 0; round < 20; round++) {
            x.write(0, 0, 0, 2 * round);
            x.write(0, 0, 0, 2 * round + 1);
            CHECK.equal("one back", Math.min(5, round + 1), x.undo());
            CHECK.equal("the first of the two", 2 * round, x.sibling(0, 0, 0, 2));
        }
        for (int left = 4; left >= 0; left--) {
            CHECK.equal("left", left, x.undo());
            CHECK.equal("each round once", 2 * (14 + left), x.sibling(0, 0, 0, 2));
        }
        CHECK.noState("no more", x, x::undo);
    }

    /** "saves the state from before it (also if it changes nothing)" */
    private static void undoOfCallsThatChangeNothing() {
        SiblingJoins x = new SiblingJoins();
        long before = x.digest();
        x.read(0, 0, 0);
        x.pull(0, 1, 2);
        x.lose(4, 2);
        x.pullAll();
        CHECK.equal("four", 4, x.count(7));
        x.forget(3, 1);
        CHECK.equal("five", 5, x.count(7));
        for (int left = 4; left >= 0; left--) {
            CHECK.equal("left", left, x.undo());
        }
        CHECK.equal("as new", before, x.digest());
    }

    /** "all, also what is counted so far" */
    private static void undoRestoresTheCounts() {
        SiblingJoins x = Made.four(0, 0);
        x.pull(1, 0, 0);
        x.join(4, 0, 0, 0);
        x.pull(1, 0, 0);
        x.pull(2, 0, 0);
        x.forget(0, 0);
        int[][] due = {{5, 4, 4, 1, 1}, {5, 4, 4, 1, 0}, {5, 4, 4, 1, 0}, {5, 4, 0, 1, 0}, {4, 0, 0, 0, 0},
            {4, 0, 0, 0, 0}, {3, 0, 0, 0, 0}};
        for (int back = 0; back < due.length; back++) {
            for (int what = 2; what <= 6; what++) {
                CHECK.equal("count " + what + ", back " + back, due[back][what - 2], x.count(what));
            }
            CHECK.equal("saved", 6 - back, x.count(7));
            if (back < 6) {
                x.undo();
            }
        }
    }

    private static void undoRestoresWhatWasForgotten() {
        SiblingJoins x = Made.four(0, 0);
        x.join(4, 0, 0, 0);
        x.pullAll();
        String[] knowledge = new String[5];
        for (int writer = 0; writer < 5; writer++) {
            knowledge[writer] = Checks.knowledge(x, writer, 0);
        }
        x.forget(2, 0);
        x.lose(4, 0);
        CHECK.equal("lost and forgotten", "0 0 0 0 1", Checks.knowledge(x, 4, 0));
        x.undo();
        x.undo();
        for (int writer = 0; writer < 5; writer++) {
            CHECK.equal("knowledge is back", knowledge[writer], Checks.knowledge(x, writer, 0));
        }
        CHECK.equal("vector is back", "1 1 1 1 1", Checks.vector(x, 2, 0));
        CHECK.equal("its count, too", 5, x.key(0, 4));
        x.write(2, 0, 1, 8);
        CHECK.equal("it goes on", 2, x.vector(1, 0, 2));
    }

    /** "but the buffer" */
    private static void undoLeavesTheBuffer() {
        SiblingJoins x = new SiblingJoins();
        x.write(0, 0, 0, 1);
        Checks.type(x, SIXTY);
        x.undo();
        CHECK.equal("60 characters stay", 60, x.clearBuffer());
        Checks.type(x, "r0");
        x.write(0, 0, 0, 1);
        x.clearBuffer();
        x.undo();
        CHECK.equal("a cleared one stays cleared", 0, x.clearBuffer());
        Checks.type(x, "w0k0s0=1");
        x.runAll();
        Checks.type(x, "r");
        x.undo();
        CHECK.equal("one that was run does not come back", 1, x.clearBuffer());
    }

    /** "Each method that is marked undoable and does not throw an exception saves" */
    private static void refusedCallsAreNotSaved() {
        SiblingJoins x = Made.crowded();
        CHECK.noState("write", x, () -> x.write(4, 0, 0, 1));
        CHECK.noState("pull", x, () -> x.pull(0, 1, 0));
        CHECK.noState("join", x, () -> x.join(0, 0, 2, 0));
        CHECK.noState("forget", x, () -> x.forget(0, 0));
        CHECK.noState("pullAll", x, x::pullAll);
        CHECK.noArgument("runAll", x, x::runAll);
        CHECK.noIndex("read", x, () -> x.read(5, 0, 0));
        CHECK.noIndex("lose", x, () -> x.lose(5, 0));
        CHECK.equal("as many as ahead", 5, x.count(7));
        CHECK.equal("the same ones", Made.digestsOf(Made.crowded()).toString(), Made.digestsOf(x).toString());
    }

    private static void looksAndTextsAreNotSaved() {
        SiblingJoins x = Made.full();
        Made.useAllThatSavesNothing(x);
        CHECK.equal("six", 6, x.count(7));
        CHECK.equal("the latest write is undone", 5, x.undo());
        CHECK.equal("not a look", 3, x.key(2, 2));
    }
}
