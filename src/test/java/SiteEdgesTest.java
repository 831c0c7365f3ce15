/**
 * The edges of the SITES: the first ACT and the last one, SITES beside one another, wide SPANS where they
 * are JOINED, and FACTS and RUNS of a PROGRAM that was changed since.
 */
public final class SiteEdgesTest {
    private static final int NULL = 1 << 1;
    private static final int CAST = 1 << 2;
    private static final int STORE = 1 << 4;
    private static final int INDEX = 1 << 5;
    private static final int BYTE = Script.BYTE;
    private static final int INT = Script.INT;

    private SiteEdgesTest() {
    }

    public static void main(String[] args) {
        firstActIsASite();
        firstActOnTheMachine();
        firstActMayThrow();
        lastActIsASite();
        sitesFromThirtyTwoOn();
        neighboursOnTheMachine();
        neighboursOfFacts();
        joinOfWideSpans();
        cloneOfWideSpans();
        placesOfWideSpans();
        greatestLengthsCount();
        aheadIsAllKept();
        changedFacts();
        changedAroundMaybe();
        changedRuns();
        actsWithoutThrows();
        maybeWithOneMissing();
        Check.finish();
    }

    /** ACT 0 makes an array of no places, for the VARIABLES are 0; among others it counts all the same. */
    private static void firstActIsASite() {
        Script s = new Script();
        int none = s.make(0, BYTE, 0);
        Check.due("its number", none, 0);
        Check.due("told(4)", s.on.told(4), 1);
        s.makeOf(1, INT, 0, 3);
        s.make(2, BYTE, 0);
        s.either(3, 0, 1);
        s.length(1, 3);
        Check.due("LENGTH", s.span(1), "0..3");
        s.either(3, 0, 2);
        s.set(1, 0);
        Check.due("READ: INDEX for ACT 0", s.on.throwsAt(s.read(2, 3, BYTE, 1)), INDEX);
        Check.due("it is meant yet", s.on.means(3, none), 1);
        s.either(3, 0, 1);
        Check.due("READ: CAST for ACT 0", s.on.throwsAt(s.read(2, 3, INT, 1)), CAST | INDEX);
        Check.due("it is not meant any more", s.on.means(3, none), 0);
        Check.due("COPY: STORE for ACT 0", s.on.throwsAt(s.copy(0, 1, 1, 1, 1)), STORE);
        s.fill(0, BYTE, 1, 0, 0);
        Check.due("no SEGMENTS", s.on.array(none, 3), 0);
        s.on.clear();
        s.set(0, 1);
        Check.due("another ACT 0", s.on.array(0, 0), -1);
        Check.due("told(4) then", s.on.told(4), 0);
    }

    private static void firstActOnTheMachine() {
        Script s = new Script();
        s.make(0, INT, 0);
        s.set(1, 9);
        s.length(1, 0);
        Check.due("LENGTH", s.on.run(1L), 0);
        Check.due("no places", s.on.value(1), 0);
        Check.due("none to tell", s.on.place(0, 0), 0);
        int write = s.write(0, INT, 1, 1);
        Check.due("WRITE: INDEX, not NULL", s.on.run(1L), 5);
        s.on.drop(write);
        s.read(1, 0, BYTE, 1);
        Check.due("READ: CAST, not NULL", s.on.run(1L), 2);
        Check.due("it is there", s.on.length(0), 0);
    }

    private static void firstActMayThrow() {
        Script s = new Script();
        s.length(0, 0);
        s.set(0, 1);
        Check.due("throwsAt(0)", s.on.throwsAt(0), NULL);
        Check.due("ACTS that MAY THROW", s.on.told(3), 1);
        Check.due("ACTS REACHED", s.on.told(2), 1);
    }

    /** ACT 39 makes an array of twelve places. */
    private static void lastActIsASite() {
        for (int which = 0; which < 2; which++) {
            Script s = new Script();
            s.makeOf(0, INT, 0, 12);
            s.set(1, 11);
            s.set(2, 5);
            s.write(0, INT, 1, 2);
            for (int i = 5; i < 39; i++) {
                s.set(3, i);
            }
            int last = which == 0 ? s.make(1, INT, 0) : s.copyOf(1, 0);
            Check.due("the last ACT", last, 39);
            String due = which == 0 ? "0..12:0..0" : "0..11:0..0 11..12:5..5";
            Check.due("its FACTS", s.segments(last), due);
            Check.due("it is meant", s.on.means(1, last), 1);
            Check.due("alone", s.on.reference(1), 2);
            Check.due("the other is as it was", s.segments(1), "0..11:0..0 11..12:5..5");
            Check.due("told(2)", s.on.told(2), 40);
            Check.due("told(4)", s.on.told(4), 2);
            Check.due("holds", s.on.holds(1L), 1);
            Check.due("its last place", s.on.place(1, 11), which == 0 ? 0 : 5);
            Check.due("none such", s.on.place(1, 12), 0);
            Check.due("two arrays", s.on.same(0, 1), 0);
        }
    }

    /** More SITES than an int has bits. */
    private static void sitesFromThirtyTwoOn() {
        Script s = new Script();
        s.set(0, 3);
        int low = s.make(0, INT, 0);
        for (int i = 2; i < 33; i++) {
            s.set(1, 2);
        }
        int high = s.make(1, INT, 0);
        int clone = s.copyOf(2, 1);
        s.either(3, 0, 1);
        s.write(1, INT, 1, 0);
        s.read(4, 3, INT, 1);
        Check.due("ACT 33, which is 1 modulo 32", high, 33);
        Check.due("NEW means it", s.on.means(1, high), 1);
        Check.due("NEW does not mean ACT 1", s.on.means(1, low), 0);
        Check.due("CLONE means it", s.on.means(2, clone), 1);
        Check.due("CLONE does not mean ACT 2", s.on.means(2, 2), 0);
        Check.due("EITHER, narrowed by its LANE", s.on.reference(3), 4);
        Check.due("the high one is written", s.segments(high), "0..2:0..0 2..3:3..3");
        Check.due("the low one is not", s.segments(low), "0..3:0..0");
        Check.due("both are read", s.span(4), "0..3");
        Check.due("told(4)", s.on.told(4), 3);
        Check.due("holds", s.on.holds(1L), 1);
    }

    /** Three arrays of twelve made one behind the other, with numbers in their first and last places. */
    private static Script neighbours() {
        Script s = new Script();
        s.set(0, 12);
        s.make(0, INT, 0);
        s.make(1, INT, 0);
        s.make(2, INT, 0);
        for (int r = 0; r < 3; r++) {
            s.put(r, INT, 0, r + 1);
            s.put(r, INT, 11, r + 7);
        }
        return s;
    }

    private static void neighboursOnTheMachine() {
        Script s = neighbours();
        s.on.run(1L);
        Check.due("behind the last place", s.on.place(1, 12), 0);
        Check.due("ahead of the first place", s.on.place(1, -1), 0);
        Check.due("the first place", s.on.place(1, 0), 2);
        Check.due("the last place", s.on.place(1, 11), 8);
        s.set(1, -2);
        s.set(2, 14);
        s.set(3, 99);
        s.fill(1, INT, 4, 2, 3);
        Check.due("FILL up to 14 throws", s.on.run(1L), 5);
        Check.due("the next one is left", s.on.place(2, 0), 3);
        Check.due("the last place is filled", s.on.place(1, 11), 99);
        s.fill(1, INT, 1, 2, 3);
        s.on.drop(s.on.told(0) - 2);
        Check.due("FILL from -2 throws", s.on.run(1L), 5);
        Check.due("the one ahead is left", s.on.place(0, 11), 7);
    }

    private static void neighboursOfFacts() {
        Script s = neighbours();
        String ahead = s.segments(1);
        String behind = s.segments(3);
        Check.due("ahead", ahead, "0..1:1..1 1..11:0..0 11..12:7..7");
        s.set(1, -3);
        s.set(2, 15);
        s.set(3, 50);
        s.fill(1, INT, 1, 2, 3);
        Check.due("FILL from -3 to 15", s.segments(2), "0..12:50..50");
        Check.due("the one ahead", s.segments(1), ahead);
        Check.due("the one behind", s.segments(3), behind);
        s.set(1, 6);
        s.copy(1, 1, 1, 1, 2);
        Check.due("COPY of 15 from 6 to 6", s.segments(2), "0..12:50..50");
        Check.due("the one behind still", s.segments(3), behind);
        Script t = new Script();
        t.set(0, 12);
        t.make(0, INT, 0);
        t.set(2, 1);
        int site = t.make(1, INT, 2);
        t.put(0, INT, 11, 5);
        Check.due("one place is sorted", t.on.array(site, 4), 1);
        Script u = new Script();
        u.set(0, 12);
        u.make(0, INT, 0);
        int next = u.make(1, INT, 0);
        u.put(0, INT, 11, 5);
        Check.due("beside a greater number: sorted", u.on.array(next, 4), 1);
        u.put(1, INT, 0, 1);
        Check.due("1, 0, 0 ..: not sorted", u.on.array(next, 4), 0);
        u.put(1, INT, 0, 0);
        u.put(1, INT, 11, -1);
        Check.due(".. 0, 0, -1: not sorted", u.on.array(next, 4), 0);
    }

    private static String joined(int least, int greatest, int low, int high) {
        Script s = new Script();
        s.input(0, least, greatest);
        s.maybe(1);
        s.input(0, low, high);
        return s.span(0);
    }

    /** "JOIN: the least SPAN that holds both" */
    private static void joinOfWideSpans() {
        Check.due("behind lies inside", joined(1, 9, 4, 5), "1..9");
        Check.due("ahead lies inside", joined(4, 5, 1, 9), "1..9");
        Check.due("behind lies above", joined(1, 3, 6, 9), "1..9");
        Check.due("behind lies below", joined(6, 9, 1, 3), "1..9");
        Check.due("like ends", joined(-2, -2, -2, -2), "-2..-2");
    }

    private static String cloned(int[] one, int[] other) {
        Script s = new Script();
        s.input(0, one[0], one[1]);
        s.make(0, INT, 0);
        s.input(0, other[0], other[1]);
        s.make(1, INT, 0);
        s.input(1, one[0], one[1]);
        s.input(2, other[0], other[1]);
        s.fill(0, INT, 5, 1, 1);
        s.write(0, INT, 5, 1);
        s.write(1, INT, 5, 2);
        s.either(2, 0, 1);
        int made = s.copyOf(2, 2);
        return s.on.array(made, 1) + ".." + s.on.array(made, 2) + " " + s.on.segment(made, 0, 2) + ".."
            + s.on.segment(made, 0, 3);
    }

    private static void cloneOfWideSpans() {
        int[] narrow = {4, 5};
        int[] wide = {1, 9};
        int[] low = {1, 3};
        int[] high = {6, 9};
        Check.due("the second inside the first", cloned(wide, narrow), "1..9 1..9");
        Check.due("the first inside the second", cloned(narrow, wide), "1..9 1..9");
        Check.due("the second above the first", cloned(low, high), "1..9 1..9");
        Check.due("the second below the first", cloned(high, low), "1..9 1..9");
    }

    /** Places that have SPANS already, JOINED with another SPAN, or copied. */
    private static void placesOfWideSpans() {
        Script s = new Script();
        int site = s.makeOf(0, INT, 0, 2);
        s.input(1, -5, 9);
        s.write(0, INT, 5, 1);
        Check.due("the SPAN", s.segments(site), "0..1:-5..9 1..2:0..0");
        s.input(2, 0, 1);
        s.input(3, 2, 3);
        s.write(0, INT, 2, 3);
        Check.due("a SPAN inside", s.segments(site), "0..1:-5..9 1..2:0..3");
        s.input(3, -7, -6);
        s.write(0, INT, 2, 3);
        Check.due("a SPAN below", s.segments(site), "0..1:-7..9 1..2:-7..3");
        s.input(3, 10, 11);
        s.write(0, INT, 2, 3);
        Check.due("a SPAN above", s.segments(site), "0..2:-7..11");
        s.set(4, 1);
        s.write(0, INT, 4, 4);
        int other = s.makeOf(1, INT, 0, 3);
        s.copy(0, 5, 1, 4, 4);
        Check.due("COPY of a SPAN", s.segments(other), "0..1:0..0 1..2:-7..11 2..3:0..0");
        s.read(3, 1, INT, 2);
        Check.due("READ of it", s.span(3), "-7..11");
    }

    /** What stands between the least and the greatest length is read, and written. */
    private static void greatestLengthsCount() {
        Script s = new Script();
        s.input(0, 2, 5);
        int site = s.make(0, INT, 0);
        s.put(0, INT, 3, 8);
        Check.due("WRITE", s.segments(site), "0..3:0..0 3..4:8..8 4..5:0..0");
        s.set(1, 3);
        s.read(2, 0, INT, 1);
        Check.due("READ", s.span(2), "8..8");
        int other = s.makeOf(1, INT, 4, 5);
        s.input(3, 1, 2);
        s.copy(0, 1, 1, 5, 3);
        Check.due("COPY, 5 is 8: to behind the end", s.segments(other), "0..5:0..0");
        s.set(5, 0);
        s.copy(0, 1, 1, 5, 3);
        Check.due("COPY", s.segments(other), "0..2:0..8 2..5:0..0");
    }

    /** "within a MAYBE: nothing of it": all that was told ahead is told behind. */
    private static void aheadIsAllKept() {
        Script s = new Script();
        s.input(0, 2, 5);
        s.set(2, 3);
        int early = s.make(0, INT, 0);
        s.input(1, -3, 8);
        s.fill(0, INT, 5, 2, 1);
        s.either(1, 0, 4);
        for (int i = 6; i < 20; i++) {
            s.set(3, i);
        }
        int late = s.copyOf(2, 0);
        s.write(2, INT, 5, 2);
        Check.due("early", s.segments(early), "0..3:-3..8 3..5:0..0");
        Check.due("late", s.segments(late), "0..1:3..3 1..3:-3..8 3..5:0..0");
        s.maybe(9);
        s.set(0, 1);
        s.set(1, 0);
        s.fill(0, INT, 5, 0, 0);
        s.fill(2, INT, 5, 0, 0);
        s.none(0);
        s.same(1, 2);
        s.make(2, BYTE, 0);
        s.length(3, 5);
        s.none(2);
        Check.due("x", s.span(0), "2..5");
        Check.due("y", s.span(1), "-3..8");
        Check.due("early then", s.segments(early), "0..3:-3..8 3..5:0..0");
        Check.due("late then", s.segments(late), "0..1:3..3 1..3:-3..8 3..5:0..0");
        Check.due("its LANE", s.on.array(late, 0), 4);
        Check.due("its length", s.on.array(late, 1) + ".." + s.on.array(late, 2), "2..5");
        Check.due("r", s.on.reference(0), 2);
        Check.due("s", s.on.reference(1), 3);
        Check.due("t", s.on.means(2, late), 1);
    }

    /** FACTS that were asked for once are asked for anew when the PROGRAM was changed. */
    private static void changedFacts() {
        Script s = new Script();
        int site = s.makeOf(0, INT, 0, 3);
        int last = s.put(0, INT, 0, 9);
        int fill = s.fill(0, INT, 3, 0, 0);
        Check.due("filled", s.segments(site), "0..3:3..3");
        s.on.drop(fill);
        Check.due("the FILL dropped", s.segments(site), "0..1:9..9 1..3:0..0");
        s.on.drop(last);
        Check.due("the WRITE dropped", s.segments(site), "0..3:0..0");
        Check.due("means it", s.on.reference(0), 2);
        s.on.drop(site);
        Check.due("the NEW dropped: NULL alone", s.on.reference(0), 1);
        Check.due("it means it no more", s.on.means(0, site), 0);
        Check.due("no FACTS", s.on.array(site, 2), -1);
        Script t = new Script();
        t.maybe(1);
        t.length(0, 0);
        Check.due("in the MAYBE", t.on.ends(), 1);
        t.on.drop(0);
        Check.due("the MAYBE dropped", t.on.ends(), 0);
        t.on.drop(1);
        Check.due("the LENGTH dropped", t.on.ends(), 1);
        t.set(0, 4);
        Check.due("an ACT more", t.span(0), "4..4");
        t.on.clear();
        Check.due("none any more", t.span(0), "0..0");
    }

    /** Each time other FACTS go through a MAYBE behind the same SITE: nothing of the earlier ones is JOINED. */
    private static void changedAroundMaybe() {
        Script s = new Script();
        int[][] rows = {{5, 7, BYTE, 4}, {2, 3, INT, 9}, {8, 12, BYTE, -4}, {1, 1, Script.CHAR, 0}};
        for (int[] row : rows) {
            s.on.clear();
            s.input(0, row[0], row[1]);
            int site = s.make(0, row[2], 0);
            s.set(1, row[3]);
            s.write(0, row[2], 5, 1);
            s.maybe(1);
            s.set(2, 6);
            Check.due("LANES", s.on.array(site, 0), 1 << row[2]);
            Check.due("least length", s.on.array(site, 1), row[0]);
            Check.due("greatest length", s.on.array(site, 2), row[1]);
            Check.due("least at 0", s.on.segment(site, 0, 2), row[3]);
            Check.due("greatest at 0", s.on.segment(site, 0, 3), row[3]);
            Check.due("JOINED", s.span(2), "0..6");
            Check.due("one SITE", s.on.told(4), 1);
        }
    }

    /** A later RUN finds nothing of an earlier one. */
    private static void changedRuns() {
        Script s = new Script();
        s.makeOf(0, INT, 0, 2);
        s.copyOf(1, 0);
        int fill = s.fill(1, INT, 5, 0, 0);
        int other = s.fill(0, INT, 5, 0, 0);
        s.on.run(1L);
        Check.due("filled", s.places(0), "2 2");
        Check.due("the clone filled", s.places(1), "2 2");
        s.on.drop(fill);
        s.on.drop(other);
        s.on.run(1L);
        Check.due("not filled", s.places(0), "0 0");
        Check.due("the clone not filled", s.places(1), "0 0");
    }

    /** "An ACT with THROWS": these have none. */
    private static void actsWithoutThrows() {
        Script s = new Script();
        s.set(0, -5);
        s.input(1, -9, 99);
        s.add(2, 0, 1);
        s.less(3, 0, 1);
        s.none(0);
        s.same(1, 0);
        s.either(2, 0, 1);
        s.maybe(3);
        s.maybe(1);
        s.fill(0, INT, 5, 5, 5);
        s.set(4, 1);
        for (int i = 0; i < s.on.told(0); i++) {
            Check.due("throwsAt " + i, s.on.throwsAt(i), 0);
            Check.due("reached " + i, s.on.reached(i), 1);
        }
        Check.due("none in all", s.on.told(3), 0);
    }

    /** "the PROGRAM's end ends it": one ACT is missing of those that it may have. */
    private static void maybeWithOneMissing() {
        Script s = new Script();
        s.maybe(2);
        s.set(0, 5);
        Check.due("one of two", s.span(0), "0..5");
        s.set(1, 6);
        Check.due("two of two", s.span(1), "0..6");
        s.set(2, 7);
        Check.due("one behind", s.span(2), "7..7");
    }
}
