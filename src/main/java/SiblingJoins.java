/**
 * Siblings of a value told apart by counters of writers, at several stores that pull from one another.
 * The numbered promises that the comments name stand in ../shared/DOC.md.
 */
public final class SiblingJoins {
    public static final int NONE = -1;

    private static final int WRITERS = 5;
    private static final int STORES = 3;
    private static final int KEYS = 3;
    private static final int MOST_SIBLINGS = 4;
    private static final int MOST_WRITES = 999;
    private static final int MOST_VALUE = 99;
    private static final int MOST_SAVED = 6;
    private static final int MOST_CHARACTERS = 60;
    private static final int FIRST_CODE = 33;
    private static final int LAST_CODE = 126;
    /** A mark is a writer times this step, plus a number, so that marks stand in the order of the siblings. */
    private static final int MARK_STEP = 1000;
    private static final long HASH_START = 2719L;
    private static final int EXPONENT_OF_ONE = 1023;
    private static final int FRACTION_BITS = 52;

    // All states are made once and used again, since what the calls of a run make is counted.
    private final State now = new State();
    private final State trial = new State();
    private final State[] saved = new State[MOST_SAVED];
    private int savedCount;
    private final int[] buffer = new int[MOST_CHARACTERS];
    private int bufferLength;
    private final Part part = new Part();

    public SiblingJoins() {
        for (int i = 0; i < MOST_SAVED; i++) {
            saved[i] = new State();
        }
    }

    // ---- reading, writing

    public int read(int writer, int key, int store) throws IndexOutOfBoundsException {
        checkWriterKeyStore(writer, key, store);
        save();
        KeyState of = now.keys[key];
        of.learn(writer, store);
        return of.copies[store].size;
    }

    public int write(int writer, int key, int store, int value)
            throws IndexOutOfBoundsException, IllegalArgumentException, IllegalStateException {
        checkWriterKeyStore(writer, key, store);
        checkUpTo(value, MOST_VALUE);
        if (!now.keys[key].mayWrite(writer, store)) {
            throw new IllegalStateException("too many siblings, or too many writes");
        }
        save();
        return now.replace(writer, key, store, value);
    }

    public int pull(int store, int other, int key)
            throws IndexOutOfBoundsException, IllegalArgumentException, IllegalStateException {
        checkTwoStores(store, other, key);
        if (!now.keys[key].mayPull(store, other)) {
            throw new IllegalStateException("too many siblings");
        }
        save();
        return now.bring(store, other, key);
    }

    public int join(int writer, int key, int store, int rule)
            throws IndexOutOfBoundsException, IllegalArgumentException, IllegalStateException {
        checkWriterKeyStore(writer, key, store);
        checkUpTo(rule, 3);
        KeyState of = now.keys[key];
        if (of.copies[store].size == 0 || of.writes[writer] >= MOST_WRITES) {
            throw new IllegalStateException("no siblings, or too many writes");
        }
        save();
        int value = of.copies[store].valueBy(rule);
        of.learn(writer, store);
        now.replace(writer, key, store, value);
        now.joins++;
        return value;
    }

    public int lose(int writer, int key) throws IndexOutOfBoundsException {
        checkIndex(writer, WRITERS);
        checkIndex(key, KEYS);
        save();
        return now.keys[key].unlearn(writer);
    }

    public int forget(int writer, int key) throws IndexOutOfBoundsException, IllegalStateException {
        checkIndex(writer, WRITERS);
        checkIndex(key, KEYS);
        KeyState of = now.keys[key];
        if (of.hindrance(writer) != 0) {
            throw new IllegalStateException("the writer cannot be forgotten");
        }
        save();
        int written = of.writes[writer];
        of.erase(writer);
        now.forgotten++;
        return written;
    }

    public int pullAll() throws IllegalStateException {
        trial.become(now);
        if (!trial.bringAll()) {
            throw new IllegalStateException("too many siblings");
        }
        int dropped = trial.droppedByPulls - now.droppedByPulls;
        save();
        now.become(trial);
        return dropped;
    }

    // ---- texts

    public int append(int code) throws IllegalArgumentException, IllegalStateException {
        if (code < FIRST_CODE || code > LAST_CODE) {
            throw new IllegalArgumentException("not a code from 33 to 126");
        }
        if (bufferLength >= MOST_CHARACTERS) {
            throw new IllegalStateException("the buffer is full");
        }
        buffer[bufferLength] = code;
        bufferLength++;
        return bufferLength;
    }

    public int clearBuffer() {
        int length = bufferLength;
        bufferLength = 0;
        return length;
    }

    public int firstError() {
        return scanBuffer();
    }

    public int runAll() throws IllegalArgumentException {
        if (scanBuffer() < bufferLength || !part.isWhole()) {
            throw new IllegalArgumentException("not complete writes as a text");
        }
        save();
        int done = runParts();
        bufferLength = 0;
        return done;
    }

    public int undo() throws IllegalStateException {
        if (savedCount == 0) {
            throw new IllegalStateException("no saved state");
        }
        savedCount--;
        now.become(saved[savedCount]);
        return savedCount;
    }

    // ---- looks; nothing is changed

    public int sibling(int store, int key, int place, int what)
            throws IndexOutOfBoundsException, IllegalArgumentException {
        checkIndex(store, STORES);
        checkIndex(key, KEYS);
        checkUpTo(place, MOST_SIBLINGS - 1);
        checkUpTo(what, 4);
        return now.keys[key].siblingFact(store, place, what);
    }

    public int vector(int store, int key, int writer) throws IndexOutOfBoundsException {
        checkWriterKeyStore(writer, key, store);
        return now.keys[key].copies[store].seen[writer];
    }

    public int knows(int writer, int key, int other) throws IndexOutOfBoundsException {
        checkIndex(writer, WRITERS);
        checkIndex(key, KEYS);
        checkIndex(other, WRITERS);
        return now.keys[key].knowledge[writer][other];
    }

    public int key(int key, int what) throws IndexOutOfBoundsException, IllegalArgumentException {
        checkIndex(key, KEYS);
        checkUpTo(what, 7);
        return now.keys[key].keyFact(what);
    }

    public int count(int what) throws IllegalArgumentException {
        checkUpTo(what, 7);
        return tally(what);
    }

    // ---- what would be; nothing is changed

    public int ifWritten(int writer, int key, int store, int what)
            throws IndexOutOfBoundsException, IllegalArgumentException {
        checkWriterKeyStore(writer, key, store);
        checkUpTo(what, 1);
        return now.keys[key].writeOutlook(writer, store, what);
    }

    public int ifPulled(int store, int other, int key, int what)
            throws IndexOutOfBoundsException, IllegalArgumentException {
        checkTwoStores(store, other, key);
        checkUpTo(what, 2);
        return now.keys[key].pullOutlook(store, other, what);
    }

    public int whyNot(int writer, int key) throws IndexOutOfBoundsException {
        checkIndex(writer, WRITERS);
        checkIndex(key, KEYS);
        return now.keys[key].hindrance(writer);
    }

    public double agreement() {
        return shareOfAgreement();
    }

    public long digest() {
        long hash = HASH_START;
        for (int what = 0; what <= 7; what++) {
            hash = mix(hash, tally(what));
        }
        for (int key = 0; key < KEYS; key++) {
            hash = mixKey(hash, now.keys[key]);
        }
        for (int key = 0; key < KEYS; key++) {
            for (int what = 0; what <= 2; what++) {
                hash = mix(hash, now.keys[key].pullOutlook(1, 0, what));
            }
        }
        hash = mix(hash, bitsOfShare(shareOfAgreement()));
        hash = mix(hash, bufferLength);
        for (int i = 0; i < bufferLength; i++) {
            hash = mix(hash, buffer[i]);
        }
        return hash;
    }

    // ---- checks of arguments

    private static void checkIndex(int index, int size) {
        if (index < 0 || index >= size) {
            throw new IndexOutOfBoundsException("no such writer, key or store");
        }
    }

    private static void checkUpTo(int number, int most) {
        if (number < 0 || number > most) {
            throw new IllegalArgumentException("a number is out of range");
        }
    }

    private static void checkWriterKeyStore(int writer, int key, int store) {
        checkIndex(writer, WRITERS);
        checkIndex(key, KEYS);
        checkIndex(store, STORES);
    }

    private static void checkTwoStores(int store, int other, int key) {
        checkIndex(store, STORES);
        checkIndex(other, STORES);
        checkIndex(key, KEYS);
        if (store == other) {
            throw new IllegalArgumentException("both stores are the same");
        }
    }

    // ---- undo

    private void save() {
        if (savedCount == MOST_SAVED) {
            dropOldest();
        }
        saved[savedCount].become(now);
        savedCount++;
    }

    /** The oldest state goes behind the others, where save() writes over it. */
    private void dropOldest() {
        State oldest = saved[0];
        for (int i = 1; i < MOST_SAVED; i++) {
            saved[i - 1] = saved[i];
        }
        saved[MOST_SAVED - 1] = oldest;
        savedCount = MOST_SAVED - 1;
    }

    // ---- texts

    /** Leaves the part as it stands at the end, so that the caller can ask it whether it is whole. */
    private int scanBuffer() {
        part.restart();
        for (int i = 0; i < bufferLength; i++) {
            if (!part.takes(buffer[i])) {
                return i;
            }
        }
        return bufferLength;
    }

    private int runParts() {
        part.restart();
        int done = 0;
        for (int i = 0; i < bufferLength; i++) {
            if (buffer[i] == ';') {
                if (!runPart()) {
                    return done;
                }
                done++;
            }
            part.takes(buffer[i]);
        }
        return runPart() ? done + 1 : done;
    }

    private boolean runPart() {
        KeyState of = now.keys[part.key];
        if (!part.writing) {
            of.learn(part.writer, part.store);
            return true;
        }
        if (!of.mayWrite(part.writer, part.store)) {
            return false;
        }
        now.replace(part.writer, part.key, part.store, part.value);
        return true;
    }

    // ---- numbers of the whole

    private int tally(int what) {
        switch (what) {
            case 0: return now.siblingsInAll();
            case 1: return now.mostSiblings();
            case 2: return now.writings;
            case 3: return now.droppedByWrites;
            case 4: return now.droppedByPulls;
            case 5: return now.joins;
            case 6: return now.forgotten;
            default: return savedCount;
        }
    }

    private double shareOfAgreement() {
        int pairs = 0;
        for (int key = 0; key < KEYS; key++) {
            pairs += now.keys[key].agreeingPairs();
        }
        return pairs / 9.0;
    }

    private static long mix(long hash, long value) {
        return 31L * hash + value;
    }

    private static long mixKey(long hash, KeyState of) {
        long mixed = hash;
        for (int what = 0; what <= 7; what++) {
            mixed = mix(mixed, of.keyFact(what));
        }
        for (int store = 0; store < STORES; store++) {
            mixed = mixStore(mixed, of, store);
        }
        for (int writer = 0; writer < WRITERS; writer++) {
            mixed = mixRow(mixed, of.knowledge[writer]);
            mixed = mix(mixed, of.hindrance(writer));
            mixed = mix(mixed, of.writeOutlook(writer, 0, 0));
            mixed = mix(mixed, of.writeOutlook(writer, 0, 1));
        }
        return mixed;
    }

    private static long mixStore(long hash, KeyState of, int store) {
        long mixed = hash;
        for (int place = 0; place < of.copies[store].size; place++) {
            for (int what = 0; what <= 4; what++) {
                mixed = mix(mixed, of.siblingFact(store, place, what));
            }
        }
        return mixRow(mixed, of.copies[store].seen);
    }

    private static long mixRow(long hash, int[] row) {
        long mixed = hash;
        for (int i = 0; i < row.length; i++) {
            mixed = mix(mixed, row[i]);
        }
        return mixed;
    }

    /** Stands for Double.doubleToLongBits, which LANGUAGE.md does not list; exact for the shares 0 to 1. */
    private static long bitsOfShare(double share) {
        if (share <= 0.0) {
            return 0L;
        }
        double scaled = share;
        long exponent = EXPONENT_OF_ONE;
        for (int i = 1; i < EXPONENT_OF_ONE && scaled < 1.0; i++) {
            scaled = scaled * 2.0;
            exponent--;
        }
        long one = 1L << FRACTION_BITS;
        long fraction = (long) (scaled * one) - one;
        return (exponent << FRACTION_BITS) + fraction;
    }

    // ---- marks and vectors

    private static int writerOf(int mark) {
        return mark / MARK_STEP;
    }

    private static int numberOf(int mark) {
        return mark % MARK_STEP;
    }

    private static boolean covers(int[] numbers, int mark) {
        int writer = mark / MARK_STEP;
        return writer >= 0 && writer < numbers.length && numbers[writer] >= mark % MARK_STEP;
    }

    private static void mergeInto(int[] numbers, int[] others) {
        for (int i = 0; i < WRITERS; i++) {
            numbers[i] = Math.max(numbers[i], others[i]);
        }
    }

    private static boolean sameNumbers(int[] numbers, int[] others) {
        for (int i = 0; i < WRITERS; i++) {
            if (numbers[i] != others[i]) {
                return false;
            }
        }
        return true;
    }

    /** What a store holds of one key: its vector, and its siblings in their order. */
    private static final class Copy {
        final int[] seen = new int[WRITERS];
        final int[] marks = new int[MOST_SIBLINGS];
        final int[] values = new int[MOST_SIBLINGS];
        int size;

        void become(Copy other) {
            System.arraycopy(other.seen, 0, seen, 0, WRITERS);
            System.arraycopy(other.marks, 0, marks, 0, MOST_SIBLINGS);
            System.arraycopy(other.values, 0, values, 0, MOST_SIBLINGS);
            size = other.size;
        }

        boolean has(int mark) {
            for (int i = 0; i < size; i++) {
                if (marks[i] == mark) {
                    return true;
                }
            }
            return false;
        }

        boolean hasOneOf(int writer) {
            for (int i = 0; i < size; i++) {
                if (writerOf(marks[i]) == writer) {
                    return true;
                }
            }
            return false;
        }

        boolean hasSameSiblings(Copy other) {
            if (size != other.size) {
                return false;
            }
            for (int i = 0; i < size; i++) {
                if (marks[i] != other.marks[i]) {
                    return false;
                }
            }
            return true;
        }

        int coveredBy(int[] numbers) {
            int covered = 0;
            for (int i = 0; i < size; i++) {
                if (covers(numbers, marks[i])) {
                    covered++;
                }
            }
            return covered;
        }

        boolean hasDropped(int mark) {
            return !has(mark) && covers(seen, mark);
        }

        boolean isNew(int mark) {
            return !has(mark) && !covers(seen, mark);
        }

        int lostTo(Copy other) {
            int lost = 0;
            for (int i = 0; i < size; i++) {
                if (other.hasDropped(marks[i])) {
                    lost++;
                }
            }
            return lost;
        }

        int gainedFrom(Copy other) {
            int gained = 0;
            for (int i = 0; i < other.size; i++) {
                if (isNew(other.marks[i])) {
                    gained++;
                }
            }
            return gained;
        }

        void dropCoveredBy(int[] numbers) {
            for (int i = size - 1; i >= 0; i--) {
                if (covers(numbers, marks[i])) {
                    remove(i);
                }
            }
        }

        void takeFrom(Copy other) {
            for (int i = size - 1; i >= 0; i--) {
                if (other.hasDropped(marks[i])) {
                    remove(i);
                }
            }
            for (int i = 0; i < other.size; i++) {
                if (isNew(other.marks[i])) {
                    insert(other.marks[i], other.values[i]);
                }
            }
            mergeInto(seen, other.seen);
        }

        /** Callers have counted ahead that there is room; without room nothing is done. */
        void insert(int mark, int value) {
            if (size < 0 || size >= MOST_SIBLINGS) {
                return;
            }
            int place = size;
            while (place > 0 && marks[place - 1] > mark) {
                marks[place] = marks[place - 1];
                values[place] = values[place - 1];
                place--;
            }
            marks[place] = mark;
            values[place] = value;
            size++;
        }

        void remove(int place) {
            for (int i = place + 1; i < size; i++) {
                marks[i - 1] = marks[i];
                values[i - 1] = values[i];
            }
            size--;
        }

        int valueBy(int rule) {
            int greatest = values[0];
            int least = values[0];
            int sum = 0;
            for (int i = 0; i < size; i++) {
                greatest = Math.max(greatest, values[i]);
                least = Math.min(least, values[i]);
                sum += values[i];
            }
            switch (rule) {
                case 0: return greatest;
                case 1: return least;
                case 2: return sum % (MOST_VALUE + 1);
                default: return values[0];
            }
        }
    }

    /** One key at all stores, and what the writers know and wrote of it. */
    private static final class KeyState {
        final Copy[] copies = new Copy[STORES];
        final int[][] knowledge = new int[WRITERS][WRITERS];
        final int[] writes = new int[WRITERS];

        KeyState() {
            for (int store = 0; store < STORES; store++) {
                copies[store] = new Copy();
            }
        }

        void become(KeyState other) {
            for (int store = 0; store < STORES; store++) {
                copies[store].become(other.copies[store]);
            }
            for (int writer = 0; writer < WRITERS; writer++) {
                System.arraycopy(other.knowledge[writer], 0, knowledge[writer], 0, WRITERS);
            }
            System.arraycopy(other.writes, 0, writes, 0, WRITERS);
        }

        void learn(int writer, int store) {
            mergeInto(knowledge[writer], copies[store].seen);
        }

        boolean mayWrite(int writer, int store) {
            return writes[writer] < MOST_WRITES && writeOutlook(writer, store, 1) <= MOST_SIBLINGS;
        }

        boolean mayPull(int store, int other) {
            return pullOutlook(store, other, 2) <= MOST_SIBLINGS;
        }

        int writeOutlook(int writer, int store, int what) {
            int dropped = copies[store].coveredBy(knowledge[writer]);
            return what == 0 ? dropped : copies[store].size - dropped + 1;
        }

        int pullOutlook(int store, int other, int what) {
            int lost = copies[store].lostTo(copies[other]);
            int gained = copies[store].gainedFrom(copies[other]);
            switch (what) {
                case 0: return lost;
                case 1: return gained;
                default: return copies[store].size - lost + gained;
            }
        }

        /** The siblings go ahead of the count, since only what the writer knew before may be dropped. */
        void put(int writer, int store, int value) {
            copies[store].dropCoveredBy(knowledge[writer]);
            writes[writer]++;
            copies[store].insert(writer * MARK_STEP + writes[writer], value);
            knowledge[writer][writer] = writes[writer];
            mergeInto(copies[store].seen, knowledge[writer]);
        }

        int unlearn(int writer) {
            int lost = 0;
            for (int other = 0; other < WRITERS; other++) {
                if (other != writer) {
                    lost += knowledge[writer][other];
                    knowledge[writer][other] = 0;
                }
            }
            return lost;
        }

        /** Promise 21: why a writer cannot be forgotten, 0 if it can be. */
        int hindrance(int writer) {
            boolean unlike = false;
            for (int store = 0; store < STORES; store++) {
                if (copies[store].hasOneOf(writer)) {
                    return 1;
                }
                if (copies[store].seen[writer] != copies[0].seen[writer]) {
                    unlike = true;
                }
            }
            return unlike ? 2 : 0;
        }

        void erase(int writer) {
            for (int store = 0; store < STORES; store++) {
                copies[store].seen[writer] = 0;
            }
            for (int other = 0; other < WRITERS; other++) {
                knowledge[other][writer] = 0;
            }
            writes[writer] = 0;
        }

        /** Promise 14. */
        int siblingFact(int store, int place, int what) {
            Copy copy = copies[store];
            if (place >= copy.size) {
                return NONE;
            }
            int mark = copy.marks[place];
            switch (what) {
                case 0: return writerOf(mark);
                case 1: return numberOf(mark);
                case 2: return copy.values[place];
                case 3: return knowers(mark);
                default: return holders(mark);
            }
        }

        int knowers(int mark) {
            int mask = 0;
            for (int writer = 0; writer < WRITERS; writer++) {
                if (covers(knowledge[writer], mark)) {
                    mask |= 1 << writer;
                }
            }
            return mask;
        }

        int holders(int mark) {
            int mask = 0;
            for (int store = 0; store < STORES; store++) {
                if (copies[store].has(mark)) {
                    mask |= 1 << store;
                }
            }
            return mask;
        }

        /** Promise 17. */
        int keyFact(int what) {
            switch (what) {
                case 3: return unlikeSiblings();
                case 4: return writesInAll();
                case 5: return agreeingPairs() == STORES ? 1 : 0;
                case 6: return allSeeTheSame() ? 1 : 0;
                case 7: return forgettable();
                default: return what >= 0 && what < STORES ? copies[what].size : NONE;
            }
        }

        int unlikeSiblings() {
            int unlike = 0;
            for (int store = 0; store < STORES; store++) {
                for (int place = 0; place < copies[store].size; place++) {
                    int earlier = holders(copies[store].marks[place]) & ((1 << store) - 1);
                    if (earlier == 0) {
                        unlike++;
                    }
                }
            }
            return unlike;
        }

        int writesInAll() {
            int sum = 0;
            for (int writer = 0; writer < WRITERS; writer++) {
                sum += writes[writer];
            }
            return sum;
        }

        int agreeingPairs() {
            int pairs = 0;
            for (int store = 0; store < STORES; store++) {
                for (int other = store + 1; other < STORES; other++) {
                    if (copies[store].hasSameSiblings(copies[other])) {
                        pairs++;
                    }
                }
            }
            return pairs;
        }

        boolean allSeeTheSame() {
            for (int store = 1; store < STORES; store++) {
                if (!sameNumbers(copies[0].seen, copies[store].seen)) {
                    return false;
                }
            }
            return true;
        }

        /** Who can be forgotten has one number at all stores, so that the store 0 tells whether it is above 0. */
        int forgettable() {
            int mask = 0;
            for (int writer = 0; writer < WRITERS; writer++) {
                if (hindrance(writer) == 0 && copies[0].seen[writer] > 0) {
                    mask |= 1 << writer;
                }
            }
            return mask;
        }
    }

    /** All that undo restores. */
    private static final class State {
        final KeyState[] keys = new KeyState[KEYS];
        int writings;
        int droppedByWrites;
        int droppedByPulls;
        int joins;
        int forgotten;

        State() {
            for (int key = 0; key < KEYS; key++) {
                keys[key] = new KeyState();
            }
        }

        void become(State other) {
            for (int key = 0; key < KEYS; key++) {
                keys[key].become(other.keys[key]);
            }
            writings = other.writings;
            droppedByWrites = other.droppedByWrites;
            droppedByPulls = other.droppedByPulls;
            joins = other.joins;
            forgotten = other.forgotten;
        }

        int replace(int writer, int key, int store, int value) {
            int dropped = keys[key].writeOutlook(writer, store, 0);
            keys[key].put(writer, store, value);
            writings++;
            droppedByWrites += dropped;
            return dropped;
        }

        int bring(int store, int other, int key) {
            int dropped = keys[key].pullOutlook(store, other, 0);
            keys[key].copies[store].takeFrom(keys[key].copies[other]);
            droppedByPulls += dropped;
            return dropped;
        }

        /** Stops in the midst if it is refused, so it is tried on a state that can be thrown away. */
        boolean bringAll() {
            for (int key = 0; key < KEYS; key++) {
                for (int store = 0; store < STORES; store++) {
                    for (int other = 0; other < STORES; other++) {
                        if (store != other && !keys[key].mayPull(store, other)) {
                            return false;
                        }
                        if (store != other) {
                            bring(store, other, key);
                        }
                    }
                }
            }
            return true;
        }

        int siblingsInAll() {
            int sum = 0;
            for (int key = 0; key < KEYS; key++) {
                for (int store = 0; store < STORES; store++) {
                    sum += keys[key].copies[store].size;
                }
            }
            return sum;
        }

        int mostSiblings() {
            int most = 0;
            for (int key = 0; key < KEYS; key++) {
                for (int store = 0; store < STORES; store++) {
                    most = Math.max(most, keys[key].copies[store].size);
                }
            }
            return most;
        }
    }

    /** Takes the characters of a text one by one, and holds what the part tells that it is in. */
    private static final class Part {
        /** A digit stands for all digits up to it. */
        static final String READING = "r4k2s2";
        static final String WRITING = "w4k2s2=9";

        int place;
        boolean writing;
        int writer;
        int key;
        int store;
        int value;

        void restart() {
            place = 0;
        }

        boolean isWhole() {
            return place >= shape().length();
        }

        /** False, with nothing taken, if no text goes on with this character. */
        boolean takes(int code) {
            if (place == 0) {
                return takesKind(code);
            }
            if (isWhole()) {
                return takesEnd(code);
            }
            char due = shape().charAt(place);
            if (due >= '0' && due <= '9') {
                return takesDigit(code, due);
            }
            if (code != due) {
                return false;
            }
            place++;
            return true;
        }

        String shape() {
            return writing ? WRITING : READING;
        }

        boolean takesKind(int code) {
            if (code != 'r' && code != 'w') {
                return false;
            }
            writing = code == 'w';
            place = 1;
            return true;
        }

        boolean takesDigit(int code, char most) {
            if (code < '0' || code > most) {
                return false;
            }
            int digit = code - '0';
            switch (place) {
                case 1: writer = digit; break;
                case 3: key = digit; break;
                case 5: store = digit; break;
                default: value = digit; break;
            }
            place++;
            return true;
        }

        /** Only a value above 0 has room for a second digit, and only for one. */
        boolean takesEnd(int code) {
            if (code == ';') {
                restart();
                return true;
            }
            boolean grows = writing && place == WRITING.length() && value > 0;
            if (!grows || code < '0' || code > '9') {
                return false;
            }
            value = 10 * value + code - '0';
            place++;
            return true;
        }
    }
}
