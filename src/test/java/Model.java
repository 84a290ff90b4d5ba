import java.util.ArrayList;
import java.util.List;
import java.util.TreeMap;
import java.util.regex.Matcher;
import java.util.regex.Pattern;

/**
 * The document once more, in another form than the class: sorted maps, copies of the whole for undo, patterns for
 * texts. It is slow and plain, so that ModelTest can tell by it what is due.
 */
final class Model {
    private static final String ONE = "(r[0-4]k[0-2]s[0-2]|w[0-4]k[0-2]s[0-2]=(0|[1-9][0-9]?))";
    private static final Pattern WRITES = Pattern.compile(ONE + "(;" + ONE + ")*");

    /** Everything that undo restores. Siblings are values by writer * 10000 + number. */
    private static final class Whole {
        final int[][] count = new int[3][5];
        final int[][][] knows = new int[3][5][5];
        final int[][][] vector = new int[3][3][5];
        final List<List<TreeMap<Integer, Integer>>> siblings = new ArrayList<>();
        final int[] tallies = new int[7];

        Whole() {
            for (int key = 0; key < 3; key++) {
                siblings.add(new ArrayList<>());
                for (int store = 0; store < 3; store++) {
                    siblings.get(key).add(new TreeMap<>());
                }
            }
        }

        Whole copy() {
            Whole to = new Whole();
            for (int key = 0; key < 3; key++) {
                to.count[key] = count[key].clone();
                for (int writer = 0; writer < 5; writer++) {
                    to.knows[key][writer] = knows[key][writer].clone();
                }
                for (int store = 0; store < 3; store++) {
                    to.vector[key][store] = vector[key][store].clone();
                    to.siblings.get(key).get(store).putAll(siblings.get(key).get(store));
                }
            }
            System.arraycopy(tallies, 0, to.tallies, 0, 7);
            return to;
        }
    }

    private Whole whole = new Whole();
    private final List<Whole> saved = new ArrayList<>();
    private String buffer = "";

    private static void index(int... pairs) {
        for (int i = 0; i < pairs.length; i += 2) {
            if (pairs[i] < 0 || pairs[i] >= pairs[i + 1]) {
                throw new IndexOutOfBoundsException();
            }
        }
    }

    private static void argument(boolean right) {
        if (!right) {
            throw new IllegalArgumentException();
        }
    }

    private static void state(boolean right) {
        if (!right) {
            throw new IllegalStateException();
        }
    }

    private void save() {
        saved.add(whole.copy());
        if (saved.size() > 6) {
            saved.remove(0);
        }
    }

    private TreeMap<Integer, Integer> at(int key, int store) {
        return whole.siblings.get(key).get(store);
    }

    private static boolean covers(int[] vector, int sibling) {
        return vector[sibling / 10000] >= sibling % 10000;
    }

    private static void merge(int[] to, int[] from) {
        for (int i = 0; i < 5; i++) {
            to[i] = Math.max(to[i], from[i]);
        }
    }

    private TreeMap<Integer, Integer> unknown(int writer, int key, int store) {
        TreeMap<Integer, Integer> left = new TreeMap<>(at(key, store));
        left.keySet().removeIf(sibling -> covers(whole.knows[key][writer], sibling));
        return left;
    }

    private boolean refused(int writer, int key, int store) {
        return unknown(writer, key, store).size() + 1 > 4 || whole.count[key][writer] >= 999;
    }

    private int put(int writer, int key, int store, int value) {
        TreeMap<Integer, Integer> left = unknown(writer, key, store);
        int dropped = at(key, store).size() - left.size();
        int number = ++whole.count[key][writer];
        left.put(writer * 10000 + number, value);
        whole.siblings.get(key).set(store, left);
        whole.knows[key][writer][writer] = number;
        merge(whole.vector[key][store], whole.knows[key][writer]);
        whole.tallies[2]++;
        whole.tallies[3] += dropped;
        return dropped;
    }

    private TreeMap<Integer, Integer> pulled(int store, int other, int key) {
        TreeMap<Integer, Integer> mine = at(key, store);
        TreeMap<Integer, Integer> theirs = at(key, other);
        TreeMap<Integer, Integer> all = new TreeMap<>(mine);
        all.putAll(theirs);
        all.keySet().removeIf(s -> !theirs.containsKey(s) && covers(whole.vector[key][other], s));
        all.keySet().removeIf(s -> !mine.containsKey(s) && covers(whole.vector[key][store], s));
        return all;
    }

    private int lost(int store, int other, int key) {
        TreeMap<Integer, Integer> gone = new TreeMap<>(at(key, store));
        gone.keySet().removeAll(pulled(store, other, key).keySet());
        return gone.size();
    }

    private int doPull(int store, int other, int key) {
        int dropped = lost(store, other, key);
        whole.siblings.get(key).set(store, pulled(store, other, key));
        merge(whole.vector[key][store], whole.vector[key][other]);
        whole.tallies[4] += dropped;
        return dropped;
    }

    int read(int writer, int key, int store) {
        index(writer, 5, key, 3, store, 3);
        save();
        merge(whole.knows[key][writer], whole.vector[key][store]);
        return at(key, store).size();
    }

    int write(int writer, int key, int store, int value) {
        index(writer, 5, key, 3, store, 3);
        argument(value >= 0 && value <= 99);
        state(!refused(writer, key, store));
        save();
        return put(writer, key, store, value);
    }

    int pull(int store, int other, int key) {
        index(store, 3, other, 3, key, 3);
        argument(store != other);
        state(pulled(store, other, key).size() <= 4);
        save();
        return doPull(store, other, key);
    }

    int join(int writer, int key, int store, int rule) {
        index(writer, 5, key, 3, store, 3);
        argument(rule >= 0 && rule <= 3);
        state(!at(key, store).isEmpty() && whole.count[key][writer] < 999);
        save();
        List<Integer> values = new ArrayList<>(at(key, store).values());
        int value = values.get(0);
        if (rule < 2) {
            values.sort(null);
            value = values.get(rule == 0 ? values.size() - 1 : 0);
        } else if (rule == 2) {
            value = values.stream().mapToInt(Integer::intValue).sum() % 100;
        }
        merge(whole.knows[key][writer], whole.vector[key][store]);
        put(writer, key, store, value);
        whole.tallies[5]++;
        return value;
    }

    int lose(int writer, int key) {
        index(writer, 5, key, 3);
        save();
        int[] own = new int[5];
        own[writer] = whole.knows[key][writer][writer];
        int sum = -own[writer];
        for (int number : whole.knows[key][writer]) {
            sum += number;
        }
        whole.knows[key][writer] = own;
        return sum;
    }

    int forget(int writer, int key) {
        index(writer, 5, key, 3);
        state(whyNot(writer, key) == 0);
        save();
        int written = whole.count[key][writer];
        whole.count[key][writer] = 0;
        for (int[] vector : whole.vector[key]) {
            vector[writer] = 0;
        }
        for (int[] knowledge : whole.knows[key]) {
            knowledge[writer] = 0;
        }
        whole.tallies[6]++;
        return written;
    }

    int pullAll() {
        Whole before = whole.copy();
        int dropped = 0;
        int[][] pairs = {{0, 1}, {0, 2}, {1, 0}, {1, 2}, {2, 0}, {2, 1}};
        for (int key = 0; key < 3; key++) {
            for (int[] pair : pairs) {
                if (pulled(pair[0], pair[1], key).size() > 4) {
                    whole = before;
                    throw new IllegalStateException();
                }
                dropped += doPull(pair[0], pair[1], key);
            }
        }
        Whole after = whole;
        whole = before;
        save();
        whole = after;
        return dropped;
    }

    int append(int code) {
        argument(code >= 33 && code <= 126);
        state(buffer.length() < 60);
        buffer += (char) code;
        return buffer.length();
    }

    int clearBuffer() {
        int length = buffer.length();
        buffer = "";
        return length;
    }

    int firstError() {
        for (int i = 1; i <= buffer.length(); i++) {
            Matcher begun = WRITES.matcher(buffer.substring(0, i));
            if (!begun.matches() && !begun.hitEnd()) {
                return i - 1;
            }
        }
        return buffer.length();
    }

    int runAll() {
        argument(WRITES.matcher(buffer).matches());
        save();
        int done = 0;
        for (String part : buffer.split(";")) {
            int writer = part.charAt(1) - '0';
            int key = part.charAt(3) - '0';
            int store = part.charAt(5) - '0';
            if (part.charAt(0) == 'r') {
                merge(whole.knows[key][writer], whole.vector[key][store]);
            } else if (refused(writer, key, store)) {
                break;
            } else {
                put(writer, key, store, Integer.parseInt(part.substring(7)));
            }
            done++;
        }
        buffer = "";
        return done;
    }

    int undo() {
        state(!saved.isEmpty());
        whole = saved.remove(saved.size() - 1);
        return saved.size();
    }

    int sibling(int store, int key, int place, int what) {
        index(store, 3, key, 3);
        argument(place >= 0 && place <= 3 && what >= 0 && what <= 4);
        List<Integer> order = new ArrayList<>(at(key, store).keySet());
        if (place >= order.size()) {
            return -1;
        }
        int sibling = order.get(place);
        int knowers = 0;
        for (int writer = 0; writer < 5; writer++) {
            knowers += covers(whole.knows[key][writer], sibling) ? 1 << writer : 0;
        }
        int holders = 0;
        for (int at = 0; at < 3; at++) {
            holders += at(key, at).containsKey(sibling) ? 1 << at : 0;
        }
        return new int[] {sibling / 10000, sibling % 10000, at(key, store).get(sibling), knowers, holders}[what];
    }

    int vector(int store, int key, int writer) {
        index(store, 3, key, 3, writer, 5);
        return whole.vector[key][store][writer];
    }

    int knows(int writer, int key, int other) {
        index(writer, 5, key, 3, other, 5);
        return whole.knows[key][writer][other];
    }

    private boolean same(int key, int store, int other) {
        return at(key, store).keySet().equals(at(key, other).keySet());
    }

    int key(int key, int what) {
        index(key, 3);
        argument(what >= 0 && what <= 7);
        TreeMap<Integer, Integer> unlike = new TreeMap<>();
        int sum = 0;
        int sameVectors = 1;
        int mask = 0;
        for (int store = 0; store < 3; store++) {
            unlike.putAll(at(key, store));
        }
        for (int writer = 0; writer < 5; writer++) {
            sum += whole.count[key][writer];
            int most = 0;
            int least = 1000;
            for (int store = 0; store < 3; store++) {
                most = Math.max(most, whole.vector[key][store][writer]);
                least = Math.min(least, whole.vector[key][store][writer]);
            }
            sameVectors = most == least ? sameVectors : 0;
            mask += most > 0 && whyNot(writer, key) == 0 ? 1 << writer : 0;
        }
        int sameSiblings = same(key, 0, 1) && same(key, 1, 2) && same(key, 0, 2) ? 1 : 0;
        return new int[] {at(key, 0).size(), at(key, 1).size(), at(key, 2).size(), unlike.size(), sum, sameSiblings,
            sameVectors, mask}[what];
    }

    int count(int what) {
        argument(what >= 0 && what <= 7);
        int sum = 0;
        int most = 0;
        for (int key = 0; key < 3; key++) {
            for (int store = 0; store < 3; store++) {
                sum += at(key, store).size();
                most = Math.max(most, at(key, store).size());
            }
        }
        return what == 0 ? sum : what == 1 ? most : what == 7 ? saved.size() : whole.tallies[what];
    }

    int ifWritten(int writer, int key, int store, int what) {
        index(writer, 5, key, 3, store, 3);
        argument(what == 0 || what == 1);
        int left = unknown(writer, key, store).size();
        return what == 0 ? at(key, store).size() - left : left + 1;
    }

    int ifPulled(int store, int other, int key, int what) {
        index(store, 3, other, 3, key, 3);
        argument(store != other && what >= 0 && what <= 2);
        TreeMap<Integer, Integer> fresh = new TreeMap<>(pulled(store, other, key));
        int then = fresh.size();
        fresh.keySet().removeAll(at(key, store).keySet());
        return new int[] {lost(store, other, key), fresh.size(), then}[what];
    }

    int whyNot(int writer, int key) {
        index(writer, 5, key, 3);
        int[][] vectors = whole.vector[key];
        for (int store = 0; store < 3; store++) {
            if (!at(key, store).subMap(writer * 10000, writer * 10000 + 10000).isEmpty()) {
                return 1;
            }
        }
        boolean alike = vectors[0][writer] == vectors[1][writer] && vectors[1][writer] == vectors[2][writer];
        return alike ? 0 : 2;
    }

    double agreement() {
        int pairs = 0;
        for (int key = 0; key < 3; key++) {
            pairs += (same(key, 0, 1) ? 1 : 0) + (same(key, 0, 2) ? 1 : 0) + (same(key, 1, 2) ? 1 : 0);
        }
        return pairs / 9.0;
    }

    long digest() {
        List<Long> list = new ArrayList<>();
        for (int what = 0; what < 8; what++) {
            list.add((long) count(what));
        }
        for (int key = 0; key < 3; key++) {
            listKey(list, key);
        }
        for (int i = 0; i < 9; i++) {
            list.add((long) ifPulled(1, 0, i / 3, i % 3));
        }
        list.add(Double.doubleToLongBits(agreement()));
        list.add((long) buffer.length());
        buffer.chars().forEach(code -> list.add((long) code));
        long hash = 2719;
        for (long v : list) {
            hash = 31 * hash + v;
        }
        return hash;
    }

    private void listKey(List<Long> list, int key) {
        for (int what = 0; what < 8; what++) {
            list.add((long) key(key, what));
        }
        for (int store = 0; store < 3; store++) {
            for (int i = 0; i < 5 * at(key, store).size(); i++) {
                list.add((long) sibling(store, key, i / 5, i % 5));
            }
            for (int writer = 0; writer < 5; writer++) {
                list.add((long) vector(store, key, writer));
            }
        }
        for (int writer = 0; writer < 5; writer++) {
            for (int other = 0; other < 5; other++) {
                list.add((long) knows(writer, key, other));
            }
            list.add((long) whyNot(writer, key));
            list.add((long) ifWritten(writer, key, 0, 0));
            list.add((long) ifWritten(writer, key, 0, 1));
        }
    }
}
