import java.util.ArrayList;
import java.util.List;

/** Objects that several tests begin with, and what is told of a whole object. */
final class Made {
    private Made() {
    }

    /** The writers 0 to 3 have a sibling each at one store, its value is its writer; none of them has read. */
    static SiblingJoins four(int store, int key) {
        return some(4, store, key);
    }

    /** As four(), with as many as are asked for, up to four. */
    static SiblingJoins some(int siblings, int store, int key) {
        SiblingJoins x = new SiblingJoins();
        for (int writer = 0; writer < siblings; writer++) {
            x.write(writer, key, store, writer);
        }
        return x;
    }

    static SiblingJoins typed(String text) {
        SiblingJoins x = new SiblingJoins();
        Checks.type(x, text);
        return x;
    }

    /**
     * Of each key the store 0 has siblings of the writers 0 to 3, the store 1 one of the writer 4, the store 2 none.
     * Five states are saved, so that one more drops none. The buffer holds writes that are not complete.
     */
    static SiblingJoins crowded() {
        SiblingJoins x = new SiblingJoins();
        for (int key = 0; key < 3; key++) {
            for (int writer = 0; writer < 5; writer++) {
                x.write(writer, key, writer / 4, 10 * writer);
            }
        }
        x.read(0, 0, 2);
        x.undo();
        Checks.type(x, "w4k0s0=");
        return x;
    }

    /** Each store has siblings of the writers 0 to 3 of each key. Six states are saved, the buffer is full. */
    static SiblingJoins full() {
        SiblingJoins x = new SiblingJoins();
        for (int place = 0; place < 36; place++) {
            x.write(place % 4, place / 12, place / 4 % 3, place);
        }
        Checks.type(x, "r0k0s0;".repeat(8) + "r0k0");
        return x;
    }

    /** Every call that is not undoable, but for undo itself. It leaves an empty buffer. */
    static void useAllThatSavesNothing(SiblingJoins x) {
        x.clearBuffer();
        x.append('r');
        x.firstError();
        x.clearBuffer();
        x.sibling(0, 0, 0, 0);
        x.vector(0, 0, 0);
        x.knows(0, 0, 0);
        x.key(0, 0);
        x.count(0);
        x.ifWritten(0, 0, 0, 0);
        x.ifPulled(0, 1, 0, 0);
        x.whyNot(0, 0);
        x.agreement();
        x.digest();
    }

    /** The digests of an object and of each state behind it. They are undone by that, so the object is spent. */
    static List<Long> digestsOf(SiblingJoins spent) {
        List<Long> digests = new ArrayList<>();
        digests.add(spent.digest());
        for (int left = spent.count(7); left > 0; left--) {
            spent.undo();
            digests.add(spent.digest());
        }
        return digests;
    }
}
