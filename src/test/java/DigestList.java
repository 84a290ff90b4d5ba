import java.util.ArrayList;
import java.util.List;

/** The values that promise 23 lists, in their order, by the public calls alone. */
final class DigestList {
    private DigestList() {
    }

    static List<Long> of(SiblingJoins x, String buffer) {
        List<Long> values = new ArrayList<>();
        for (int what = 0; what <= 7; what++) {
            values.add((long) x.count(what));
        }
        for (int key = 0; key < 3; key++) {
            addKey(values, x, key);
        }
        for (int key = 0; key < 3; key++) {
            for (int what = 0; what <= 2; what++) {
                values.add((long) x.ifPulled(1, 0, key, what));
            }
        }
        values.add(Double.doubleToLongBits(x.agreement()));
        values.add((long) buffer.length());
        for (int i = 0; i < buffer.length(); i++) {
            values.add((long) buffer.charAt(i));
        }
        return values;
    }

    private static void addKey(List<Long> values, SiblingJoins x, int key) {
        for (int what = 0; what <= 7; what++) {
            values.add((long) x.key(key, what));
        }
        for (int store = 0; store < 3; store++) {
            addStore(values, x, key, store);
        }
        for (int writer = 0; writer < 5; writer++) {
            for (int other = 0; other < 5; other++) {
                values.add((long) x.knows(writer, key, other));
            }
            values.add((long) x.whyNot(writer, key));
            values.add((long) x.ifWritten(writer, key, 0, 0));
            values.add((long) x.ifWritten(writer, key, 0, 1));
        }
    }

    private static void addStore(List<Long> values, SiblingJoins x, int key, int store) {
        for (int place = 0; place < x.key(key, store); place++) {
            for (int what = 0; what <= 4; what++) {
                values.add((long) x.sibling(store, key, place, what));
            }
        }
        for (int writer = 0; writer < 5; writer++) {
            values.add((long) x.vector(store, key, writer));
        }
    }

    static long hash(List<Long> values) {
        long hash = 2719;
        for (long value : values) {
            hash = 31 * hash + value;
        }
        return hash;
    }
}
