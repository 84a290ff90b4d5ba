import java.math.BigInteger;
import java.util.List;

/** Promises 14 to 23 at their bounds: the least and the greatest number that each look can tell, and NONE. */
public final class LooksBoundsTest {
    private static final Checks CHECK = new Checks();

    public static void main(String[] args) {
        noneIfThereAreNotSoMany();
        siblingTellsItsValue();
        siblingTellsWhoCoversIt();
        siblingTellsWhereItIs();
        vectorOfEachPlace();
        knowsOfEachPlace();
        keyCountsSiblings();
        keyCountsUnlikeOnes();
        keySumsWrites();
        keySameSiblings();
        keySameVector();
        keySamenessOfOneAlone();
        keyForgettableByAMask();
        keyForgettableOnlyAboveZero();
        countOfSiblings();
        countOfTheMost();
        countOfWritings();
        countOfDropped();
        countOfForgottenAndSaved();
        ifWrittenAsItIsThen();
        ifWrittenAlsoIfRefused();
        ifPulledAsItIsThen();
        ifPulledAlsoIfRefused();
        whyNotFirstASibling();
        whyNotOfOneStoreAlone();
        agreementOfAllPairs();
        digestOverflows();
        digestOfEachShare();
        digestOfTheBuffer();
        CHECK.finish();
    }

    /** "Returns the number; NONE if there are not so many." */
    private static void noneIfThereAreNotSoMany() {
        CHECK.equal("NONE", -1, SiblingJoins.NONE);
        for (int siblings = 0; siblings <= 4; siblings++) {
            SiblingJoins x = Made.some(siblings, 2, 1);
            for (int place = 0; place <= 3; place++) {
                int[] due = {place, 1, place, 1 << place, 4};
                for (int what = 0; what <= 4; what++) {
                    String where = "place " + place + " of " + siblings + ", what " + what;
                    CHECK.equal(where, place < siblings ? due[what] : SiblingJoins.NONE, x.sibling(2, 1, place, what));
                    CHECK.equal("another store, " + where, SiblingJoins.NONE, x.sibling(1, 1, place, what));
                    CHECK.equal("another key, " + where, SiblingJoins.NONE, x.sibling(2, 2, place, what));
                }
            }
            CHECK.noArgument("place 4 of " + siblings, x, () -> x.sibling(2, 1, 4, 0));
        }
        SiblingJoins joined = Made.four(0, 0);
        joined.join(4, 0, 0, 0);
        CHECK.equal("what was there is no more", SiblingJoins.NONE, joined.sibling(0, 0, 1, 2));
        joined.undo();
        CHECK.equal("and is again", 3, joined.sibling(0, 0, 3, 2));
    }

    /** "0: its writer; 1: its number; 2: its value" */
    private static void siblingTellsItsValue() {
        SiblingJoins x = new SiblingJoins();
        x.write(4, 2, 0, 0);
        x.write(4, 2, 0, 99);
        x.write(4, 2, 0, 0);
        x.write(0, 2, 0, 99);
        int[][] due = {{0, 1, 99}, {4, 3, 0}};
        for (int place = 0; place <= 1; place++) {
            for (int what = 0; what <= 2; what++) {
                CHECK.equal("place " + place + " what " + what, due[place][what], x.sibling(0, 2, place, what));
            }
        }
    }

    /** "3: writers whose knowledge covers it, as a mask" */
    private static void siblingTellsWhoCoversIt() {
        for (int readers = 0; readers < 32; readers++) {
            SiblingJoins x = new SiblingJoins();
            x.write(2, 1, 1, 7);
            for (int writer = 0; writer < 5; writer++) {
                if ((readers >> writer & 1) == 1) {
                    x.read(writer, 1, 1);
                }
            }
            CHECK.equal("who has read, and its writer", readers | 4, x.sibling(1, 1, 0, 3));
            x.pull(0, 1, 1);
            CHECK.equal("elsewhere, too", readers | 4, x.sibling(0, 1, 0, 3));
        }
    }

    /** "4: stores that have it, as a mask" */
    private static void siblingTellsWhereItIs() {
        for (int stores = 1; stores < 8; stores++) {
            SiblingJoins x = new SiblingJoins();
            int first = Integer.numberOfTrailingZeros(stores);
            x.write(3, 0, first, 5);
            for (int store = first + 1; store < 3; store++) {
                if ((stores >> store & 1) == 1) {
                    x.pull(store, first, 0);
                }
            }
            for (int store = 0; store < 3; store++) {
                boolean has = (stores >> store & 1) == 1;
                CHECK.equal("stores " + stores, has ? stores : -1, x.sibling(store, 0, 0, 4));
            }
        }
        SiblingJoins y = new SiblingJoins();
        y.write(3, 0, 0, 5);
        y.write(3, 0, 1, 5);
        CHECK.equal("another number is another sibling", 1, y.sibling(0, 0, 0, 4));
    }

    /** "Returns a number of the vector of a store." */
    private static void vectorOfEachPlace() {
        SiblingJoins x = Made.full();
        for (int place = 0; place < 45; place++) {
            int store = place / 15;
            int key = place / 5 % 3;
            int writer = place % 5;
            CHECK.equal("place " + place, writer < 4 ? store + 1 : 0, x.vector(store, key, writer));
        }
    }

    /** "Returns a number of the knowledge of a writer." */
    private static void knowsOfEachPlace() {
        SiblingJoins x = Made.full();
        x.read(4, 1, 1);
        for (int place = 0; place < 75; place++) {
            int writer = place / 15;
            int key = place / 5 % 3;
            int other = place % 5;
            int due = writer < 4 && writer == other ? 3 : 0;
            due = writer == 4 && key == 1 && other < 4 ? 2 : due;
            CHECK.equal("place " + place, due, x.knows(writer, key, other));
        }
    }

    /** "0 to 2: siblings at the store 0 to 2" */
    private static void keyCountsSiblings() {
        for (int siblings = 0; siblings <= 4; siblings++) {
            for (int place = 0; place < 9; place++) {
                SiblingJoins x = Made.some(siblings, place % 3, place / 3);
                for (int other = 0; other < 9; other++) {
                    CHECK.equal("place " + other, other == place ? siblings : 0, x.key(other / 3, other % 3));
                }
            }
        }
    }

    /** "3: how many unlike siblings all stores together have" */
    private static void keyCountsUnlikeOnes() {
        SiblingJoins x = Made.full();
        for (int key = 0; key < 3; key++) {
            CHECK.equal("four at each store, all unlike", 12, x.key(key, 3));
        }
        x.pull(0, 1, 1);
        CHECK.equal("four of two stores", 8, x.key(1, 3));
        x.pull(1, 2, 1);
        CHECK.equal("four of the others", 8, x.key(1, 3));
        x.pull(0, 2, 1);
        CHECK.equal("four of all", 4, x.key(1, 3));
        CHECK.equal("another key stays", 12, x.key(0, 3));
        CHECK.equal("none", 0, new SiblingJoins().key(0, 3));
        SiblingJoins y = new SiblingJoins();
        y.write(1, 0, 0, 5);
        y.pull(2, 0, 0);
        CHECK.equal("the stores 0 and 2", 1, y.key(0, 3));
        y.write(2, 0, 1, 5);
        CHECK.equal("the same value of another writer", 2, y.key(0, 3));
    }

    /** "4: the sum of the counts of writes of it, of all writers" */
    private static void keySumsWrites() {
        SiblingJoins x = new SiblingJoins();
        int[] due = new int[3];
        for (int i = 0; i < 60; i++) {
            x.write(i % 2 * 4, i % 3, i % 2, 1);
            due[i % 3]++;
            for (int key = 0; key < 3; key++) {
                CHECK.equal("key " + key, due[key], x.key(key, 4));
            }
        }
        x.join(0, 0, 0, 0);
        CHECK.equal("a join is a write", 21, x.key(0, 4));
        CHECK.noState("refused", x, () -> x.join(0, 0, 2, 0));
        CHECK.equal("a refused one is none", 21, x.key(0, 4));
        x.join(3, 0, 0, 0);
        x.join(3, 0, 1, 0);
        x.pullAll();
        x.forget(0, 0);
        CHECK.equal("without those of one that is forgotten", 12, x.key(0, 4));
    }

    /** "5: 1 if all stores have the same siblings, otherwise 0" */
    private static void keySameSiblings() {
        for (int place = 0; place < 9; place++) {
            int key = place / 3;
            int store = place % 3;
            int next = (store + 1) % 3;
            int last = (store + 2) % 3;
            SiblingJoins x = new SiblingJoins();
            CHECK.equal("none everywhere", 1, x.key(key, 5));
            x.write(1, key, store, 5);
            CHECK.equal("one store has one", 0, x.key(key, 5));
            CHECK.equal("of another key", 1, x.key((key + 1) % 3, 5));
            x.pull(next, store, key);
            CHECK.equal("two have it", 0, x.key(key, 5));
            x.pull(last, store, key);
            CHECK.equal("all have it", 1, x.key(key, 5));
            x.write(2, key, store, 6);
            CHECK.equal("one has one more", 0, x.key(key, 5));
            x.undo();
            x.write(1, key, store, 5);
            CHECK.equal("one has another number", 0, x.key(key, 5));
        }
        CHECK.equal("as many, but of other numbers", 0, Made.full().key(2, 5));
    }

    /** "6: 1 if all stores have the same vector, otherwise 0" */
    private static void keySameVector() {
        for (int place = 0; place < 45; place++) {
            int writer = place / 9;
            int key = place / 3 % 3;
            int store = place % 3;
            SiblingJoins x = new SiblingJoins();
            CHECK.equal("all 0", 1, x.key(key, 6));
            x.write(writer, key, store, 5);
            CHECK.equal("one number is unlike", 0, x.key(key, 6));
            CHECK.equal("of another key", 1, x.key((key + 1) % 3, 6));
            x.pull((store + 1) % 3, store, key);
            CHECK.equal("two are the same", 0, x.key(key, 6));
            x.pull((store + 2) % 3, store, key);
            CHECK.equal("all are the same", 1, x.key(key, 6));
        }
    }

    /** By losing, the same siblings come with unlike vectors, and the same vectors with unlike siblings. */
    private static void keySamenessOfOneAlone() {
        SiblingJoins x = new SiblingJoins();
        x.write(1, 0, 2, 1);
        x.join(0, 0, 2, 0);
        x.lose(0, 0);
        x.write(0, 0, 1, 2);
        x.pull(0, 1, 0);
        x.pull(2, 1, 0);
        CHECK.equal("the same siblings", 1, x.key(0, 5));
        CHECK.equal("unlike vectors", 0, x.key(0, 6));
        CHECK.equal("agreement looks at siblings alone", 1.0, x.agreement());
        SiblingJoins y = new SiblingJoins();
        y.write(3, 0, 2, 1);
        y.write(1, 0, 1, 2);
        y.read(1, 0, 2);
        y.pull(1, 2, 0);
        y.write(1, 0, 0, 3);
        y.lose(1, 0);
        y.write(1, 0, 1, 4);
        y.pull(2, 1, 0);
        y.pull(0, 2, 0);
        CHECK.equal("unlike siblings", 0, y.key(0, 5));
        CHECK.equal("the same vectors", 1, y.key(0, 6));
        CHECK.equal("one pair agrees", 7 / 9.0, y.agreement());
    }

    /** "7: writers that could be forgotten now, as a mask" */
    private static void keyForgettableByAMask() {
        for (int mask = 0; mask < 32; mask++) {
            if (Integer.bitCount(mask) <= 4) {
                SiblingJoins x = new SiblingJoins();
                int last = Integer.numberOfTrailingZeros(~mask);
                for (int writer = 0; writer < 5; writer++) {
                    if ((mask >> writer & 1) == 1) {
                        x.write(writer, 2, 0, 1);
                    }
                }
                x.read(last, 2, 0);
                x.write(last, 2, 0, 2);
                CHECK.equal("unlike numbers", 0, x.key(2, 7));
                x.pullAll();
                CHECK.equal("all that are replaced", mask, x.key(2, 7));
                CHECK.equal("of another key", 0, x.key(1, 7));
            }
        }
    }

    /** "of those with a number above 0 in some vector" */
    private static void keyForgettableOnlyAboveZero() {
        SiblingJoins x = new SiblingJoins();
        CHECK.equal("nobody wrote", 0, x.key(0, 7));
        x.write(4, 0, 0, 1);
        x.join(3, 0, 0, 0);
        x.pullAll();
        CHECK.equal("those that never wrote could be, but are not told", 16, x.key(0, 7));
        CHECK.equal("one of them", 0, x.whyNot(2, 0));
        x.forget(4, 0);
        CHECK.equal("nor one that is forgotten", 0, x.key(0, 7));
        CHECK.equal("though it could be again", 0, x.whyNot(4, 0));
    }

    /** "0: siblings of all stores and keys" */
    private static void countOfSiblings() {
        CHECK.equal("none", 0, new SiblingJoins().count(0));
        CHECK.equal("four each", 36, Made.full().count(0));
        for (int place = 0; place < 9; place++) {
            CHECK.equal("at one place", 3, Made.some(3, place % 3, place / 3).count(0));
        }
        SiblingJoins x = Made.four(0, 0);
        x.pullAll();
        CHECK.equal("the same at three stores are three", 12, x.count(0));
    }

    /** "1: the greatest number of siblings of a store and key" */
    private static void countOfTheMost() {
        for (int place = 0; place < 9; place++) {
            for (int siblings = 0; siblings <= 4; siblings++) {
                SiblingJoins x = Made.some(siblings, place % 3, place / 3);
                CHECK.equal("alone", siblings, x.count(1));
                x.write(4, (place / 3 + 1) % 3, place % 3, 1);
                CHECK.equal("at least one", Math.max(1, siblings), x.count(1));
            }
        }
    }

    /** "2: writings so far, joins, too", "5: joins so far" */
    private static void countOfWritings() {
        SiblingJoins x = Made.four(0, 0);
        x.join(4, 0, 0, 0);
        x.join(4, 0, 0, 0);
        CHECK.equal("writings and joins", 6, x.count(2));
        CHECK.equal("joins", 2, x.count(5));
        Checks.type(x, "w0k1s1=5;r0k1s1;w0k1s1=6");
        x.runAll();
        CHECK.equal("those of texts, too", 8, x.count(2));
        CHECK.equal("which are no joins", 2, x.count(5));
        x.read(0, 0, 0);
        x.pullAll();
        x.lose(0, 0);
        CHECK.equal("but nothing else", 8, x.count(2));
        CHECK.noArgument("refused", x, () -> x.write(0, 0, 0, -1));
        CHECK.noState("refused", x, () -> x.join(0, 2, 0, 0));
        CHECK.equal("refused ones do not count", 8, x.count(2));
    }

    /** "3: siblings that were dropped by writings so far; 4: by pulling" */
    private static void countOfDropped() {
        SiblingJoins x = Made.four(0, 0);
        x.pull(1, 0, 0);
        x.write(0, 0, 0, 5);
        CHECK.equal("one by writing", 1, x.count(3));
        x.join(4, 0, 0, 0);
        CHECK.equal("four by joining", 5, x.count(3));
        Checks.type(x, "w4k0s0=5;w4k0s0=6");
        x.runAll();
        CHECK.equal("two by a text", 7, x.count(3));
        CHECK.equal("none by pulling", 0, x.count(4));
        x.pull(1, 0, 0);
        CHECK.equal("four by pulling", 4, x.count(4));
        x.pull(2, 0, 0);
        x.write(4, 0, 0, 7);
        x.pullAll();
        CHECK.equal("two by pulling all", 6, x.count(4));
        CHECK.equal("eight by writing", 8, x.count(3));
    }

    /** "6: writers that were forgotten so far; 7: saved states" */
    private static void countOfForgottenAndSaved() {
        SiblingJoins x = new SiblingJoins();
        for (int i = 1; i <= 9; i++) {
            x.forget(i % 5, i % 3);
            CHECK.equal("forgotten", i, x.count(6));
            CHECK.equal("saved", Math.min(6, i), x.count(7));
        }
        for (int i = 1; i <= 6; i++) {
            x.undo();
            CHECK.equal("forgotten, undone", 9 - i, x.count(6));
            CHECK.equal("saved, undone", 6 - i, x.count(7));
        }
        SiblingJoins y = Made.four(0, 0);
        CHECK.noState("cannot be forgotten", y, () -> y.forget(0, 0));
        CHECK.equal("does not count", 0, y.count(6));
    }

    /** The calls that tell what would be, against what is then, on objects of their own. */
    private static void ifWrittenAsItIsThen() {
        for (int place = 0; place < 90; place++) {
            int writer = place % 5;
            int key = place / 5 % 3;
            int store = place / 15 % 3;
            SiblingJoins x = place < 45 ? Made.crowded() : Made.full();
            int dropped = x.ifWritten(writer, key, store, 0);
            int then = x.ifWritten(writer, key, store, 1);
            if (then > 4) {
                CHECK.noState("refused " + place, x, () -> x.write(writer, key, store, 0));
            } else {
                CHECK.equal("dropped " + place, dropped, x.write(writer, key, store, 0));
                CHECK.equal("then " + place, then, x.key(key, store));
            }
        }
    }

    /** "Returns the number (also if the writing would be refused).": 0 to 4 dropped, 1 to 5 then */
    private static void ifWrittenAlsoIfRefused() {
        for (int known = 0; known <= 4; known++) {
            for (int more = 0; known + more <= 4; more++) {
                SiblingJoins x = Made.some(known, 2, 0);
                x.read(4, 0, 2);
                for (int writer = known; writer < known + more; writer++) {
                    x.write(writer, 0, 2, 1);
                }
                CHECK.equal("dropped", known, x.ifWritten(4, 0, 2, 0));
                CHECK.equal("then", more + 1, x.ifWritten(4, 0, 2, 1));
            }
        }
    }

    private static void ifPulledAsItIsThen() {
        int[][] pairs = {{0, 1}, {0, 2}, {1, 0}, {1, 2}, {2, 0}, {2, 1}};
        for (int place = 0; place < 36; place++) {
            int[] pair = pairs[place % 6];
            int key = place / 6 % 3;
            SiblingJoins x = place < 18 ? Made.crowded() : Made.full();
            int dropped = x.ifPulled(pair[0], pair[1], key, 0);
            int fresh = x.ifPulled(pair[0], pair[1], key, 1);
            int then = x.ifPulled(pair[0], pair[1], key, 2);
            CHECK.equal("what goes and comes " + place, then, x.key(key, pair[0]) - dropped + fresh);
            if (then > 4) {
                CHECK.noState("refused " + place, x, () -> x.pull(pair[0], pair[1], key));
            } else {
                CHECK.equal("dropped " + place, dropped, x.pull(pair[0], pair[1], key));
                CHECK.equal("then " + place, then, x.key(key, pair[0]));
            }
        }
    }

    private static void pulledIs(SiblingJoins x, int store, int other, String due) {
        String got = x.ifPulled(store, other, 0, 0) + " " + x.ifPulled(store, other, 0, 1) + " "
            + x.ifPulled(store, other, 0, 2);
        CHECK.equal("ifPulled " + store + " from " + other, due, got);
    }

    /** "Returns the number (also if it would be refused).": 0 to 4 dropped, 0 to 4 new, 0 to 5 then */
    private static void ifPulledAlsoIfRefused() {
        pulledIs(new SiblingJoins(), 0, 1, "0 0 0");
        for (int siblings = 1; siblings <= 4; siblings++) {
            SiblingJoins x = Made.some(siblings, 0, 0);
            pulledIs(x, 1, 0, "0 " + siblings + " " + siblings);
            pulledIs(x, 0, 1, "0 0 " + siblings);
            x.pull(1, 0, 0);
            pulledIs(x, 1, 0, "0 0 " + siblings);
            x.join(4, 0, 1, 0);
            pulledIs(x, 0, 1, siblings + " 1 1");
            pulledIs(x, 1, 0, "0 0 1");
            SiblingJoins y = Made.some(siblings, 0, 0);
            for (int writer = siblings; writer < 5; writer++) {
                y.write(writer, 0, 1, 9);
            }
            pulledIs(y, 0, 1, "0 " + (5 - siblings) + " 5");
            pulledIs(y, 1, 0, "0 " + siblings + " 5");
            CHECK.noState("five", y, () -> y.pull(0, 1, 0));
        }
        SiblingJoins full = Made.full();
        pulledIs(full, 0, 1, "4 4 4");
        pulledIs(full, 1, 0, "0 0 4");
    }

    /** "Returns 1 if a store has a sibling of it, otherwise 2 if stores have unlike numbers for it; 0 if it can be." */
    private static void whyNotFirstASibling() {
        SiblingJoins x = new SiblingJoins();
        for (int place = 0; place < 15; place++) {
            CHECK.equal("never wrote", 0, x.whyNot(place / 3, place % 3));
        }
        x.write(4, 2, 1, 1);
        CHECK.equal("a sibling and unlike numbers", 1, x.whyNot(4, 2));
        CHECK.equal("of another key", 0, x.whyNot(4, 1));
        CHECK.equal("of another writer", 0, x.whyNot(3, 2));
        x.join(0, 2, 1, 0);
        CHECK.equal("unlike numbers alone", 2, x.whyNot(4, 2));
        x.pull(0, 1, 2);
        CHECK.equal("the same at two stores", 2, x.whyNot(4, 2));
        x.pull(2, 1, 2);
        CHECK.equal("the same at all", 0, x.whyNot(4, 2));
        CHECK.equal("a sibling and the same numbers", 1, x.whyNot(0, 2));
        x.forget(4, 2);
        CHECK.equal("forgotten", 0, x.whyNot(4, 2));
    }

    private static void whyNotOfOneStoreAlone() {
        for (int store = 0; store < 3; store++) {
            SiblingJoins x = new SiblingJoins();
            x.write(1, 0, store, 1);
            CHECK.equal("one store has a sibling", 1, x.whyNot(1, 0));
            x.join(2, 0, store, 0);
            CHECK.equal("one store has a number", 2, x.whyNot(1, 0));
            x.pull((store + 1) % 3, store, 0);
            CHECK.equal("one store has none", 2, x.whyNot(1, 0));
        }
    }

    /** "Returns the pairs of two stores and a key, with the same siblings at both, as a double, divided by 9.0." */
    private static SiblingJoins agreeing(int[] pairs, int turn) {
        SiblingJoins x = new SiblingJoins();
        for (int key = 0; key < 3; key++) {
            if (pairs[key] < 3) {
                x.write(1, key, turn, 5);
            }
            if (pairs[key] < 1) {
                x.write(2, key, (turn + 1) % 3, 5);
            }
        }
        return x;
    }

    private static void agreementOfAllPairs() {
        int[] ofAKey = {0, 1, 3};
        for (int place = 0; place < 81; place++) {
            int[] pairs = {ofAKey[place % 3], ofAKey[place / 3 % 3], ofAKey[place / 9 % 3]};
            SiblingJoins x = agreeing(pairs, place / 27);
            int sum = pairs[0] + pairs[1] + pairs[2];
            CHECK.equal("pairs " + sum, (double) sum / 9.0, x.agreement());
            CHECK.tell(Double.doubleToLongBits(sum / 9.0) == Double.doubleToLongBits(x.agreement()), "bits of " + sum);
        }
        SiblingJoins same = Made.four(1, 1);
        CHECK.equal("two stores without siblings agree", 7 / 9.0, same.agreement());
        same.pull(0, 1, 1);
        CHECK.equal("two stores with the same ones agree", 7 / 9.0, same.agreement());
        same.pull(2, 1, 1);
        CHECK.equal("all do", 1.0, same.agreement());
        CHECK.equal("none does", 0.0, Made.full().agreement());
    }

    private static void digestIs(String what, SiblingJoins x, String buffer) {
        CHECK.equal(what, DigestList.hash(DigestList.of(x, buffer)), x.digest());
    }

    /** "in long arithmetic with overflow": the lowest 64 bits of what it were without */
    private static void digestOverflows() {
        SiblingJoins[] all = {new SiblingJoins(), Made.four(2, 2), Made.crowded(), Made.full()};
        String[] buffers = {"", "", "w4k0s0=", "r0k0s0;".repeat(8) + "r0k0"};
        for (int i = 0; i < all.length; i++) {
            List<Long> values = DigestList.of(all[i], buffers[i]);
            BigInteger hash = BigInteger.valueOf(2719);
            for (long value : values) {
                hash = hash.multiply(BigInteger.valueOf(31)).add(BigInteger.valueOf(value));
            }
            CHECK.tell(hash.bitLength() > 64, "it does not overflow");
            CHECK.equal("digest of object " + i, hash.longValue(), all[i].digest());
            CHECK.equal("the same again", hash.longValue(), all[i].digest());
        }
        CHECK.equal("alike objects have alike digests", Made.full().digest(), all[3].digest());
    }

    /** "the bits of agreement (as Double.doubleToLongBits)" */
    private static void digestOfEachShare() {
        int[] ofAKey = {0, 1, 3};
        for (int place = 0; place < 27; place++) {
            int[] pairs = {ofAKey[place % 3], ofAKey[place / 3 % 3], ofAKey[place / 9]};
            digestIs("pairs " + pairs[0] + pairs[1] + pairs[2], agreeing(pairs, 0), "");
        }
    }

    /** "the length of the buffer and each of its character codes" */
    private static void digestOfTheBuffer() {
        SiblingJoins x = Made.four(0, 0);
        StringBuilder buffer = new StringBuilder();
        digestIs("an empty buffer", x, "");
        for (int length = 1; length <= 60; length++) {
            char code = (char) (length % 2 == 0 ? 33 + length : 127 - length);
            x.append(code);
            buffer.append(code);
            digestIs("length " + length, x, buffer.toString());
        }
        x.clearBuffer();
        digestIs("a cleared buffer", x, "");
        x.append('~');
        digestIs("what was cleared does not count", x, "~");
    }
}
