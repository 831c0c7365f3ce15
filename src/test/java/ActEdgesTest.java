/**
 * The boundary cases of '1 A PROGRAM', on the machine: a method for each sentence that names one,
 * with the sentence above it.
 */
public final class ActEdgesTest {
    private static final int NULL = 1;
    private static final int CAST = 2;
    private static final int SIZE = 3;
    private static final int STORE = 4;
    private static final int INDEX = 5;
    private static final int ROOM = 7;
    private static final int LEAST = Integer.MIN_VALUE;
    private static final int GREATEST = Integer.MAX_VALUE;

    private ActEdgesTest() {
    }

    public static void main(String[] args) {
        zeroAndNullAtFirst();
        numbersOfSet();
        numbersOfInput();
        goingRound();
        lengthsOfNew();
        newIsAllZero();
        noneSameEither();
        cloneOfOne();
        castOnWrite();
        readAsItIs();
        writeAndReadPlaces();
        copyAsIfReadFirst();
        copyBelowZero();
        copyTooFewPlaces();
        copyGoingRound();
        fillUpToBelow();
        fillWithoutWrite();
        fillStopsAtItsThrow();
        lengthOfAll();
        maybeUpToTen();
        maybeWithinMaybe();
        maybeAtTheEnd();
        nullOfEachUse();
        castOfEachLane();
        storeBetweenLanes();
        firstOfSeveral();
        throwEndsTheRun();
        Check.finish();
    }

    private static Script ran(Script s) {
        s.on.run(1L);
        return s;
    }

    private static int thrown(Script s) {
        return s.on.run(1L);
    }

    /** "VARIABLES 0 .. 5, ints, 0 at first, and REFERENCES 0 .. 5, NULL at first." */
    private static void zeroAndNullAtFirst() {
        Script s = new Script();
        for (int k = 0; k < 6; k++) {
            s.add(k, k, k);
        }
        Check.due("all begin well", thrown(s), 0);
        for (int k = 0; k < 6; k++) {
            Check.due("VARIABLE at first " + k, s.on.value(k), 0);
            Check.due("REFERENCE at first " + k, s.on.length(k), -1);
        }
        Script again = new Script();
        again.add(0, 0, 1);
        again.set(1, 7);
        again.same(1, 0);
        again.make(0, Script.INT, 1);
        ran(again);
        ran(again);
        Check.due("0 at first in each RUN", again.on.value(0), 0);
        Check.due("NULL at first in each RUN", again.places(1), "null");
    }

    /** "SET x a: x is the number b (-1000000 .. 1000000)." */
    private static void numbersOfSet() {
        for (int number : new int[] {-1000000, -1, 0, 1, 1000000}) {
            Script s = new Script();
            s.set(3, number);
            Check.due("SET " + number, ran(s).on.value(3), number);
        }
        Check.due("SET below", new Script().set(0, -1000001), -2);
        Check.due("SET above", new Script().set(0, 1000001), -2);
    }

    /** "INPUT x: any int from b to c (such numbers, b at most c)." */
    private static void numbersOfInput() {
        Script s = new Script();
        s.input(0, -1000000, -1000000);
        s.input(1, 1000000, 1000000);
        s.input(2, 7, 8);
        s.input(3, -1000000, 1000000);
        int seen = 0;
        for (int seed = 0; seed < 40; seed++) {
            s.on.run(seed);
            Check.due("INPUT of one, the least", s.on.value(0), -1000000);
            Check.due("INPUT of one, the greatest", s.on.value(1), 1000000);
            seen |= 1 << s.on.value(2) - 7;
            Check.isTrue("INPUT of all", s.on.value(3) >= -1000000 && s.on.value(3) <= 1000000);
        }
        Check.due("b and c both come, no other", seen, 3);
        Check.due("INPUT, b below", s.input(0, -1000001, 0), -2);
        Check.due("INPUT, c above", s.input(0, 0, 1000001), -2);
        Check.due("INPUT, b one above c", s.input(0, 1, 0), -2);
    }

    /** "ADD x y z: x is y + z; LESS x y z: y - z (both going round)." */
    private static void goingRound() {
        Script s = new Script();
        s.setGreatest(0, 1);
        s.set(1, 1);
        s.add(2, 0, 1);
        s.less(3, 2, 1);
        s.add(4, 0, 0);
        s.less(5, 5, 2);
        ran(s);
        Check.due("the greatest int", s.on.value(0), GREATEST);
        Check.due("ADD goes round", s.on.value(2), LEAST);
        Check.due("LESS goes round", s.on.value(3), GREATEST);
        Check.due("twice the greatest", s.on.value(4), -2);
        Check.due("0 - the least is the least", s.on.value(5), LEAST);
        Check.due("and holds", s.on.holds(1L), 1);
    }

    private static int newOf(int many) {
        Script s = new Script();
        s.makeOf(0, Script.INT, 0, many);
        return thrown(s);
    }

    /** "NEW of more than 12 places is not done, and the RUN ends there with the THROW 7 ROOM." "SIZE (NEW of fewer than 0)" */
    private static void lengthsOfNew() {
        Check.due("NEW of 0", newOf(0), 0);
        Check.due("NEW of 12", newOf(12), 0);
        Check.due("NEW of 13", newOf(13), ROOM);
        Check.due("NEW of 1000000", newOf(1000000), ROOM);
        Check.due("NEW of -1", newOf(-1), SIZE);
        Check.due("NEW of -1000000", newOf(-1000000), SIZE);
        Script most = new Script();
        most.setGreatest(0, 1);
        most.make(0, Script.BYTE, 0);
        Check.due("NEW of the greatest int", thrown(most), ROOM);
        Script fewest = new Script();
        fewest.setLeast(0);
        fewest.make(0, Script.CHAR, 0);
        Check.due("NEW of the least int", thrown(fewest), SIZE);
        Script kept = new Script();
        kept.makeOf(0, Script.INT, 0, 4);
        int not = kept.makeOf(0, Script.INT, 0, 13);
        ran(kept);
        Check.due("it is not done: r is left", kept.on.length(0), 4);
        Check.due("there", kept.on.where(), not);
    }

    /** "a new array of LANE l with x places, all 0" */
    private static void newIsAllZero() {
        Script s = new Script();
        int site = s.makeOf(0, Script.INT, 0, 3);
        s.put(0, Script.INT, 2, 9);
        s.same(1, 0);
        ran(s);
        Check.due("written", s.places(0), "0 0 9");
        s.on.drop(s.on.told(0) - 2);
        ran(s);
        Check.due("all 0 in a later RUN", s.places(0), "0 0 0");
        s.on.clear();
        s.makeOf(0, Script.INT, 0, 12);
        ran(s);
        Check.due("all twelve 0 behind clear", s.places(0), "0 0 0 0 0 0 0 0 0 0 0 0");
        Check.due("the same SITE as before", site, 1);
    }

    /** "NONE r: NULL. SAME r s. EITHER r s t: r is s or t, as it comes." */
    private static void noneSameEither() {
        Script s = new Script();
        s.makeOf(0, Script.INT, 0, 2);
        s.same(1, 0);
        s.put(1, Script.INT, 1, 6);
        s.none(0);
        s.same(2, 3);
        s.either(4, 3, 5);
        Check.due("NULLS may go from one to another", thrown(s), 0);
        Check.due("NONE", s.places(0), "null");
        Check.due("SAME is left", s.places(1), "0 6");
        Check.due("SAME of NULL", s.places(2), "null");
        Check.due("EITHER of NULLS", s.places(4), "null");
        s.either(1, 1, 1);
        Check.due("EITHER of itself", ran(s).places(1), "0 6");
    }

    /** "CLONE r s: a new array of the LANE of s with what is in it." */
    private static void cloneOfOne() {
        Script s = new Script();
        s.makeOf(0, Script.BYTE, 0, 2);
        s.put(0, Script.BYTE, 1, 5);
        s.copyOf(1, 0);
        s.put(0, Script.BYTE, 0, 7);
        s.put(1, Script.BYTE, 0, 8);
        s.makeOf(2, Script.CHAR, 0, 0);
        s.copyOf(3, 2);
        s.copyOf(0, 0);
        Check.due("the LANE is that of s", thrown(s), 0);
        Check.due("onto itself", s.places(0), "7 5");
        Check.due("the clone", s.places(1), "8 5");
        Check.due("of no places", s.on.length(3), 0);
        Check.due("a new one", s.on.same(2, 3), 0);
    }

    private static int castTo(int lane, int number) {
        Script s = new Script();
        s.makeOf(0, lane, 0, 1);
        s.put(0, lane, 0, number);
        return ran(s).on.place(0, 0);
    }

    /** "an int is CAST to one as the language casts it" */
    private static void castOnWrite() {
        int[] numbers = {-1000000, -65537, -65536, -32769, -257, -256, -129, -128, -1, 0, 127, 128, 255, 256, 32768,
            65535, 65536, 1000000};
        for (int number : numbers) {
            Check.due("BYTE of " + number, castTo(Script.BYTE, number), (byte) number);
            Check.due("CHAR of " + number, castTo(Script.CHAR, number), (char) number);
            Check.due("INT of " + number, castTo(Script.INT, number), number);
        }
        Check.due("128 does not fit a BYTE", castTo(Script.BYTE, 128), -128);
        Check.due("-129 does not fit a BYTE", castTo(Script.BYTE, -129), 127);
        Check.due("-1 does not fit a CHAR", castTo(Script.CHAR, -1), 65535);
        Check.due("65536 does not fit a CHAR", castTo(Script.CHAR, 65536), 0);
    }

    /** "READ x r l y: x is what r, taken so, has at y." */
    private static void readAsItIs() {
        int[][] due = {{-128, -128}, {65535, 65535}, {-1000000, -1000000}};
        for (int lane = 0; lane < 3; lane++) {
            Script s = new Script();
            s.makeOf(0, lane, 0, 12);
            s.put(0, lane, 11, due[lane][0]);
            s.read(1, 0, lane, 4);
            s.read(4, 0, lane, 4);
            ran(s);
            Check.due("READ of the last place, LANE " + lane, s.on.value(1), due[lane][1]);
            Check.due("READ into the place's own VARIABLE", s.on.value(4), due[lane][1]);
        }
    }

    private static void placeOf(String what, int many, Script s, int due) {
        s.makeOf(1, Script.INT, 1, many);
        int next = s.write(1, Script.INT, 0, 0);
        Check.due("WRITE at " + what, thrown(s), due);
        s.on.drop(next);
        s.read(2, 1, Script.INT, 0);
        Check.due("READ at " + what, thrown(s), due);
    }

    private static Script with(int number) {
        Script s = new Script();
        s.set(0, number);
        return s;
    }

    /** "INDEX (a place that there is not ..)" */
    private static void writeAndReadPlaces() {
        placeOf("the first of 3", 3, with(0), 0);
        placeOf("the last of 3", 3, with(2), 0);
        placeOf("3 of 3", 3, with(3), INDEX);
        placeOf("-1 of 3", 3, with(-1), INDEX);
        placeOf("0 of 0", 0, with(0), INDEX);
        placeOf("11 of 12", 12, with(11), 0);
        placeOf("12 of 12", 12, with(12), INDEX);
        Script greatest = new Script();
        greatest.setGreatest(0, 1);
        placeOf("the greatest int", 12, greatest, INDEX);
        Script least = new Script();
        least.setLeast(0);
        placeOf("the least int", 12, least, INDEX);
    }

    /** An INT array 1 .. 5 in REFERENCE 0, one of seven 0 in 1, and COPY with these numbers. */
    private static Script copied(int r, int x, int s, int y, int z) {
        Script on = new Script();
        on.makeOf(0, Script.INT, 0, 5);
        on.makeOf(1, Script.INT, 0, 7);
        for (int p = 0; p < 5; p++) {
            on.put(0, Script.INT, p, p + 1);
        }
        on.set(1, x);
        on.set(2, y);
        on.set(3, z);
        on.copy(r, 1, s, 2, 3);
        return on;
    }

    /** "z places of r from x on come to s from y on, as if all were read first" */
    private static void copyAsIfReadFirst() {
        Check.due("up by one", ran(copied(0, 0, 0, 1, 4)).places(0), "1 1 2 3 4");
        Check.due("down by one", ran(copied(0, 1, 0, 0, 4)).places(0), "2 3 4 5 5");
        Check.due("up by two", ran(copied(0, 0, 0, 2, 3)).places(0), "1 2 1 2 3");
        Check.due("onto itself", ran(copied(0, 0, 0, 0, 5)).places(0), "1 2 3 4 5");
        Script other = ran(copied(0, 1, 1, 4, 3));
        Check.due("to another", other.places(1), "0 0 0 0 2 3 4");
        Check.due("r is left", other.places(0), "1 2 3 4 5");
        Check.due("none at all", ran(copied(0, 2, 1, 2, 0)).places(1), "0 0 0 0 0 0 0");
    }

    /** "COPY: x, y, z below 0" */
    private static void copyBelowZero() {
        Check.due("none below 0", thrown(copied(0, 0, 1, 0, 0)), 0);
        Check.due("x below 0", thrown(copied(0, -1, 1, 0, 1)), INDEX);
        Check.due("y below 0", thrown(copied(0, 0, 1, -1, 1)), INDEX);
        Check.due("z below 0", thrown(copied(0, 1, 1, 1, -1)), INDEX);
        Check.due("x below 0, none to copy", thrown(copied(0, -1, 1, 0, 0)), INDEX);
        Check.due("y below 0, none to copy", thrown(copied(0, 0, 1, -1, 0)), INDEX);
        Check.due("nothing is copied then", copiedNothing(), "0 0 0 0 0 0 0");
    }

    private static String copiedNothing() {
        return ran(copied(0, 0, 1, 3, 5)).places(1);
    }

    /** "COPY: .. too few places" */
    private static void copyTooFewPlaces() {
        Check.due("all five of r", thrown(copied(0, 0, 1, 0, 5)), 0);
        Check.due("six of r", thrown(copied(0, 0, 1, 0, 6)), INDEX);
        Check.due("from 1 on, four", thrown(copied(0, 1, 1, 0, 4)), 0);
        Check.due("from 1 on, five", thrown(copied(0, 1, 1, 0, 5)), INDEX);
        Check.due("the last places of s", thrown(copied(0, 0, 1, 2, 5)), 0);
        Check.due("one too many for s", thrown(copied(0, 0, 1, 3, 5)), INDEX);
        Check.due("none from the end of r", thrown(copied(0, 5, 1, 0, 0)), 0);
        Check.due("none from behind it", thrown(copied(0, 6, 1, 0, 0)), INDEX);
        Check.due("none to the end of s", thrown(copied(0, 0, 1, 7, 0)), 0);
        Check.due("none to behind it", thrown(copied(0, 0, 1, 8, 0)), INDEX);
    }

    /** x and z together are above all ints: too few places all the same. */
    private static void copyGoingRound() {
        int[][] rows = {{1, 2, 1}, {2, 1, 1}, {2, 2, 1}, {1, 3, 2}, {3, 1, 2}};
        for (int[] row : rows) {
            Script s = new Script();
            s.makeOf(0, Script.INT, 0, 5);
            s.setGreatest(1, 2);
            s.set(2, 1);
            s.copy(0, row[0], 0, row[1], row[2]);
            Check.due("COPY with the greatest int", thrown(s), INDEX);
            s.on.clear();
            s.makeOf(0, Script.INT, 0, 5);
            s.setLeast(1);
            s.set(2, 1);
            s.copy(0, row[0], 0, row[1], row[2]);
            Check.due("COPY with the least int", thrown(s), INDEX);
        }
    }

    private static Script filled(int x, int y) {
        Script s = new Script();
        s.makeOf(0, Script.BYTE, 0, 4);
        s.set(1, x);
        s.set(2, y);
        s.set(3, 260);
        s.fill(0, Script.BYTE, 1, 2, 3);
        return s;
    }

    /** "FILL r l x y z: for i from x up to below y, one after the other: WRITE of z at i." */
    private static void fillUpToBelow() {
        Check.due("the middle", ran(filled(1, 3)).places(0), "0 4 4 0");
        Check.due("all", ran(filled(0, 4)).places(0), "4 4 4 4");
        Check.due("all, no THROW", thrown(filled(0, 4)), 0);
        Check.due("one", ran(filled(3, 4)).places(0), "0 0 0 4");
        Check.due("none", ran(filled(2, 2)).places(0), "0 0 0 0");
        Check.due("none, x above y", ran(filled(3, 1)).places(0), "0 0 0 0");
    }

    /** "FILL if it does a WRITE" */
    private static void fillWithoutWrite() {
        Check.due("none at -1", thrown(filled(-1, -1)), 0);
        Check.due("none at 9", thrown(filled(9, 9)), 0);
        Check.due("from 9 down to 5", thrown(filled(9, 5)), 0);
        Script s = new Script();
        s.makeOf(0, Script.INT, 0, 4);
        s.fill(5, Script.INT, 1, 1, 1);
        s.fill(0, Script.BYTE, 1, 1, 1);
        s.fill(0, Script.INT, 1, 1, 1);
        Check.due("NULL, another LANE: no WRITE, no THROW", thrown(s), 0);
        s.fill(5, Script.INT, 1, 0, 1);
        Check.due("NULL with a WRITE", thrown(s), NULL);
        s.on.drop(5);
        s.fill(0, Script.CHAR, 1, 0, 1);
        Check.due("another LANE with a WRITE", thrown(s), CAST);
    }

    /** "one after the other": those ahead of the THROW are done. */
    private static void fillStopsAtItsThrow() {
        Script s = filled(2, 1000000);
        Check.due("beyond the end", thrown(s), INDEX);
        Check.due("those ahead are written", s.places(0), "0 0 4 4");
        Script below = filled(-1, 3);
        Check.due("from below 0", thrown(below), INDEX);
        Check.due("none is written", below.places(0), "0 0 0 0");
        Script ends = new Script();
        ends.makeOf(0, Script.INT, 0, 12);
        ends.setGreatest(1, 2);
        ends.set(2, 1);
        ends.fill(0, Script.INT, 2, 1, 2);
        Check.due("up to the greatest int", thrown(ends), INDEX);
        Check.due("up to the last place", ends.places(0), "0 1 1 1 1 1 1 1 1 1 1 1");
        ends.fill(0, Script.INT, 1, 1, 2);
        ends.on.drop(ends.on.told(0) - 2);
        Check.due("from the greatest int up to it", thrown(ends), 0);
    }

    /** "LENGTH x r: x is how many places." */
    private static void lengthOfAll() {
        for (int many : new int[] {0, 1, 12}) {
            Script s = new Script();
            s.makeOf(0, Script.CHAR, 0, many);
            s.set(1, 99);
            s.length(1, 0);
            Check.due("LENGTH " + many, ran(s).on.value(1), many);
        }
    }

    /** How many of twelve SETS behind a MAYBE of b are not done in some RUN. */
    private static int ofMaybe(int b) {
        Script s = new Script();
        s.set(1, 1);
        s.maybe(b);
        for (int k = 0; k < 12; k++) {
            s.add(0, 0, 1);
        }
        int least = 12;
        int greatest = 0;
        for (int seed = 0; seed < 30; seed++) {
            s.on.run(seed);
            least = Math.min(least, s.on.value(0));
            greatest = Math.max(greatest, s.on.value(0));
        }
        Check.due("all are done in some RUN", greatest, 12);
        return 12 - least;
    }

    /** "MAYBE: the next b ACTS (1 .. 10) are done or not" */
    private static void maybeUpToTen() {
        Check.due("MAYBE 1", ofMaybe(1), 1);
        Check.due("MAYBE 2", ofMaybe(2), 2);
        Check.due("MAYBE 10", ofMaybe(10), 10);
        Check.due("MAYBE 0", new Script().maybe(0), -2);
        Check.due("MAYBE 11", new Script().maybe(11), -2);
        Check.due("MAYBE -1", new Script().maybe(-1), -2);
    }

    /** "a MAYBE among them does nothing", but is one of them. */
    private static void maybeWithinMaybe() {
        Script s = new Script();
        s.maybe(2);
        s.maybe(3);
        s.set(0, 1);
        s.set(1, 1);
        int seen = 0;
        for (int seed = 0; seed < 40; seed++) {
            s.on.run(seed);
            seen |= 1 << s.on.value(0);
            Check.due("behind both", s.on.value(1), 1);
        }
        Check.due("the outer one's second ACT", seen, 3);
    }

    /** "the PROGRAM's end ends it" */
    private static void maybeAtTheEnd() {
        Script s = new Script();
        s.maybe(10);
        int seen = 0;
        for (int seed = 0; seed < 40; seed++) {
            Check.due("MAYBE alone", s.on.run(seed), 0);
        }
        s.set(0, 1);
        for (int seed = 0; seed < 40; seed++) {
            Check.due("MAYBE of one that there is", s.on.run(seed), 0);
            seen |= 1 << s.on.value(0);
        }
        Check.due("done or not", seen, 3);
    }

    /** "NULL (a REFERENCE that is used: of CLONE, WRITE, READ, COPY, LENGTH, FILL if it does a WRITE)" */
    private static void nullOfEachUse() {
        for (int which = 0; which < 7; which++) {
            Script s = new Script();
            s.makeOf(0, Script.INT, 0, 3);
            int used = useNull(s, which);
            Check.due("NULL of use " + which, thrown(s), NULL);
            Check.due("at that ACT", s.on.where(), used);
        }
    }

    private static int useNull(Script s, int which) {
        switch (which) {
            case 0:
                return s.copyOf(0, 5);
            case 1:
                return s.write(5, Script.INT, 1, 1);
            case 2:
                return s.read(1, 5, Script.INT, 1);
            case 3:
                return s.copy(5, 1, 0, 1, 1);
            case 4:
                return s.copy(0, 1, 5, 1, 1);
            case 5:
                return s.length(1, 5);
            default:
                return s.fill(5, Script.INT, 1, 0, 1);
        }
    }

    /** "CAST (it has another LANE than l)" */
    private static void castOfEachLane() {
        for (int lane = 0; lane < 3; lane++) {
            for (int taken = 0; taken < 3; taken++) {
                int due = lane == taken ? 0 : CAST;
                for (int which = 0; which < 3; which++) {
                    Script s = new Script();
                    s.makeOf(0, lane, 0, 3);
                    if (which == 0) {
                        s.write(0, taken, 1, 1);
                    } else if (which == 1) {
                        s.read(1, 0, taken, 1);
                    } else {
                        s.fill(0, taken, 1, 0, 1);
                    }
                    Check.due("LANE " + lane + " taken for " + taken + " by " + which, thrown(s), due);
                }
            }
        }
    }

    /** "STORE (COPY between LANES)" */
    private static void storeBetweenLanes() {
        for (int from = 0; from < 3; from++) {
            for (int to = 0; to < 3; to++) {
                Script s = new Script();
                s.makeOf(0, from, 0, 3);
                s.make(1, to, 0);
                s.copy(0, 1, 1, 1, 1);
                Check.due("COPY from LANE " + from + " to " + to, thrown(s), from == to ? 0 : STORE);
            }
        }
    }

    /** "Other THROWS, of several the first here" */
    private static void firstOfSeveral() {
        Script s = new Script();
        s.makeOf(0, Script.INT, 0, 3);
        s.make(1, Script.BYTE, 0);
        s.set(1, -1);
        int nullFirst = s.write(5, Script.INT, 1, 1);
        Check.due("NULL ahead of INDEX: WRITE", thrown(s), NULL);
        s.on.drop(nullFirst);
        int readNull = s.read(2, 5, Script.INT, 1);
        Check.due("NULL ahead of INDEX: READ", thrown(s), NULL);
        s.on.drop(readNull);
        int cast = s.write(0, Script.BYTE, 1, 1);
        Check.due("CAST ahead of INDEX: WRITE", thrown(s), CAST);
        s.on.drop(cast);
        int readCast = s.read(2, 0, Script.BYTE, 1);
        Check.due("CAST ahead of INDEX: READ", thrown(s), CAST);
        s.on.drop(readCast);
        int fillNull = s.fill(5, Script.INT, 1, 0, 0);
        Check.due("NULL ahead of INDEX: FILL", thrown(s), NULL);
        s.on.drop(fillNull);
        int fillCast = s.fill(0, Script.BYTE, 1, 0, 0);
        Check.due("CAST ahead of INDEX: FILL", thrown(s), CAST);
        s.on.drop(fillCast);
        int copyNull = s.copy(5, 1, 1, 1, 1);
        Check.due("NULL ahead of INDEX: COPY from NULL", thrown(s), NULL);
        s.on.drop(copyNull);
        int ontoNull = s.copy(1, 1, 5, 1, 1);
        Check.due("NULL ahead of INDEX: COPY to NULL", thrown(s), NULL);
        s.on.drop(ontoNull);
        int store = s.copy(0, 1, 1, 1, 1);
        Check.due("STORE ahead of INDEX: below 0", thrown(s), STORE);
        s.on.drop(store);
        s.set(1, 4);
        s.copy(0, 1, 1, 1, 1);
        Check.due("STORE ahead of INDEX: too few", thrown(s), STORE);
    }

    /** "each ends the RUN at its ACT" */
    private static void throwEndsTheRun() {
        Script s = new Script();
        s.makeOf(0, Script.INT, 0, 3);
        s.set(1, 7);
        int last = s.write(0, Script.INT, 1, 1);
        s.set(1, 8);
        s.put(0, Script.INT, 0, 5);
        s.makeOf(2, Script.INT, 2, 13);
        Check.due("the first one that throws", thrown(s), INDEX);
        Check.due("where", s.on.where(), last);
        Check.due("no VARIABLE behind it", s.on.value(1), 7);
        Check.due("no place behind it", s.places(0), "0 0 0");
        Check.due("what was ahead of it is left", s.on.value(0), 3);
        Script kept = new Script();
        kept.makeOf(0, Script.INT, 0, 2);
        kept.set(1, 9);
        kept.read(1, 0, Script.INT, 1);
        ran(kept);
        Check.due("a READ that throws gives nothing", kept.on.value(1), 9);
        Script other = new Script();
        other.makeOf(0, Script.INT, 0, 2);
        other.copyOf(0, 5);
        other.none(0);
        ran(other);
        Check.due("a CLONE that throws gives nothing", other.on.length(0), 2);
    }
}
