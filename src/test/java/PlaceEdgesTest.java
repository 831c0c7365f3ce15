/**
 * The boundary cases of what ACTS do to places, in '2 FACTS': a method for each sentence that names one,
 * with the sentence above it and answers worked out by hand.
 */
public final class PlaceEdgesTest {
    private static final int BYTE = Script.BYTE;
    private static final int CHAR = Script.CHAR;
    private static final int INT = Script.INT;

    private PlaceEdgesTest() {
    }

    public static void main(String[] args) {
        newOfNoneAndTwelve();
        cloneJoinsAll();
        lengthJoinsAll();
        readInTheSpan();
        readBelowEachLength();
        writeIsStrong();
        writeIsWeak();
        writeBelowEachLength();
        copyIsStrong();
        copyBelowTwelve();
        copyOverItself();
        copyLooksAtNoLengths();
        copyIsWeak();
        copyUpToBelow();
        copyBelowEachLength();
        copyOfNone();
        copyFarAway();
        fillJoins();
        fillFromZero();
        fillUpToTheLength();
        fillOfTheLane();
        fillIsStrong();
        fillIsWeak();
        eitherJoins();
        maybeJoins();
        maybeWithNewArrays();
        maybeOfUnreached();
        maybeAtTheEnd();
        Check.finish();
    }

    /** All twelve places of what r means, JOINED with 0: those beyond its length are seen in a longer CLONE. */
    private static String allTwelve(Script s, int r, int lane) {
        s.set(4, 12);
        s.make(5, lane, 4);
        s.either(5, r, 5);
        return s.segments(s.copyOf(5, 5));
    }

    /** An INT array with these numbers; VARIABLES 4, 5 are used. */
    private static int numbers(Script s, int r, int... all) {
        int site = s.makeOf(r, INT, 4, all.length);
        for (int p = 0; p < all.length; p++) {
            s.put(r, INT, p, all[p]);
        }
        return site;
    }

    /** "NEW: its SITE has the LANE, the length, all places 0 .. 0." */
    private static void newOfNoneAndTwelve() {
        Script s = new Script();
        int none = s.makeOf(0, CHAR, 0, 0);
        int all = s.makeOf(1, BYTE, 0, 12);
        Check.due("LANE of none", s.on.array(none, 0), 2);
        Check.due("greatest length of none", s.on.array(none, 2), 0);
        Check.due("segments of none", s.segments(none), "");
        Check.due("LANE of twelve", s.on.array(all, 0), 1);
        Check.due("least length of twelve", s.on.array(all, 1), 12);
        Check.due("segments of twelve", s.segments(all), "0..12:0..0");
        Check.due("r means it alone", s.on.reference(1), 2);
        s.makeOf(1, INT, 0, 1);
        Check.due("r means the new one alone", s.on.means(1, all), 0);
        Check.due("the old one has its FACTS", s.on.array(all, 2), 12);
    }

    /** "CLONE: what JOINS all SITES of s." */
    private static void cloneJoinsAll() {
        Script s = new Script();
        numbers(s, 0, 7, 7);
        int last = s.makeOf(1, BYTE, 4, 4);
        s.put(1, BYTE, 3, -5);
        s.either(2, 0, 1);
        int made = s.copyOf(2, 2);
        Check.due("LANES", s.on.array(made, 0), 5);
        Check.due("length", s.on.array(made, 1) + ".." + s.on.array(made, 2), "2..4");
        Check.due("places, beyond the shorter one too", s.segments(made), "0..2:0..7 2..3:0..0 3..4:-5..0");
        Check.due("r means it alone", s.on.reference(2), 2);
        int one = s.copyOf(3, 1);
        Check.due("of one SITE: like it", s.segments(one), s.segments(last));
        int none = s.makeOf(0, CHAR, 0, 0);
        int empty = s.copyOf(0, 0);
        Check.due("of no places", s.on.array(empty, 2), 0);
        Check.due("sorted", s.on.array(empty, 4), s.on.array(none, 4));
    }

    /** "LENGTH: the JOIN of the lengths." */
    private static void lengthJoinsAll() {
        Script s = new Script();
        s.input(0, 0, 2);
        s.make(0, INT, 0);
        s.length(1, 0);
        Check.due("from none", s.span(1), "0..2");
        s.makeOf(1, BYTE, 0, 12);
        s.length(1, 1);
        Check.due("twelve", s.span(1), "12..12");
        s.either(2, 0, 1);
        s.length(1, 2);
        Check.due("both", s.span(1), "0..12");
    }

    /** "READ: the JOIN of the places in the SPAN of y .." */
    private static void readInTheSpan() {
        Script s = new Script();
        numbers(s, 0, 1, 2, 3, 4);
        s.set(1, 0);
        s.read(2, 0, INT, 1);
        Check.due("the first", s.span(2), "1..1");
        s.set(1, 3);
        s.read(2, 0, INT, 1);
        Check.due("the last", s.span(2), "4..4");
        s.input(1, 1, 2);
        s.read(2, 0, INT, 1);
        Check.due("the middle ones", s.span(2), "2..3");
        s.input(1, -1, 4);
        s.read(2, 0, INT, 1);
        Check.due("all", s.span(2), "1..4");
    }

    /** ".. below each SITE's greatest length, of all SITES" */
    private static void readBelowEachLength() {
        Script s = new Script();
        numbers(s, 0, 8, 9);
        numbers(s, 1, 1, 2, 3);
        s.set(1, 2);
        s.set(2, 1);
        s.copy(0, 3, 0, 1, 2);
        Check.due("8 stands behind the end", allTwelve(s, 0, INT), "0..1:0..8 1..2:0..9 2..3:0..8 3..12:0..0");
        s.either(2, 0, 1);
        s.set(1, 2);
        s.read(2, 2, INT, 1);
        Check.due("it is not read", s.span(2), "3..3");
        s.input(1, 1, 2);
        s.read(2, 2, INT, 1);
        Check.due("both at 1, one at 2", s.span(2), "2..9");
    }

    /** "WRITE: if r has one SITE and the place's SPAN is one number: that place is the SPAN of y CAST (to l)." */
    private static void writeIsStrong() {
        Script s = new Script();
        int site = s.makeOf(0, BYTE, 0, 3);
        s.put(0, BYTE, 2, 200);
        Check.due("the last place, CAST", s.segments(site), "0..2:0..0 2..3:-128..127");
        s.put(0, BYTE, 2, 5);
        Check.due("again: what was there goes", s.segments(site), "0..2:0..0 2..3:5..5");
        s.input(1, 2, 8);
        s.set(2, 6);
        s.write(0, BYTE, 1, 2);
        Check.due("one number is left of the SPAN", s.segments(site), "0..2:0..0 2..3:6..6");
        int other = s.makeOf(1, INT, 0, 3);
        s.either(2, 0, 1);
        s.either(2, 2, 5);
        s.set(1, 0);
        s.write(2, INT, 1, 2);
        Check.due("one SITE is left, NULL is none", s.segments(other), "0..1:6..6 1..3:0..0");
        Check.due("the other is as it was", s.segments(site), "0..2:0..0 2..3:6..6");
    }

    /** "Else each place in the SPAN .. of each SITE is JOINED with that." */
    private static void writeIsWeak() {
        Script s = new Script();
        int site = numbers(s, 0, 1, 1, 1, 1);
        s.input(1, 1, 2);
        s.set(2, 3);
        s.write(0, INT, 1, 2);
        Check.due("two numbers, one SITE", s.segments(site), "0..1:1..1 1..3:1..3 3..4:1..1");
        int other = s.makeOf(1, INT, 4, 4);
        s.either(2, 0, 1);
        s.set(1, 0);
        s.set(2, 9);
        s.write(2, INT, 1, 2);
        Check.due("one number, two SITES", s.segments(site), "0..1:1..9 1..3:1..3 3..4:1..1");
        Check.due("the other SITE", s.segments(other), "0..1:0..9 1..4:0..0");
        s.set(1, 3);
        s.set(2, -4);
        s.write(2, INT, 1, 2);
        Check.due("the least is JOINED, too", s.segments(site), "0..1:1..9 1..3:1..3 3..4:-4..1");
    }

    /** "(below its SITE's greatest length)" */
    private static void writeBelowEachLength() {
        Script s = new Script();
        s.makeOf(0, INT, 0, 2);
        int longer = s.makeOf(1, INT, 0, 4);
        s.either(2, 0, 1);
        s.input(1, 1, 3);
        s.set(2, 7);
        s.write(2, INT, 1, 2);
        Check.due("the longer one", s.segments(longer), "0..1:0..0 1..4:0..7");
        Check.due("the shorter one", allTwelve(s, 0, INT), "0..1:0..0 1..2:0..7 2..12:0..0");
    }

    private static Script copied(int x, int y, int z) {
        Script s = new Script();
        numbers(s, 0, 1, 2, 3);
        s.makeOf(1, INT, 0, 12);
        s.set(1, x);
        s.set(2, y);
        s.set(3, z);
        s.copy(0, 1, 1, 2, 3);
        return s;
    }

    private static String copiedTo(int x, int y, int z) {
        return copied(x, y, z).segments(12);
    }

    /** "COPY: if r and s have one SITE each, and x, y, z are one number each: the places of s become those of r" */
    private static void copyIsStrong() {
        Check.due("the SITE of s", copied(0, 0, 0).on.array(12, 2), 12);
        Check.due("none", copiedTo(0, 0, 0), "0..12:0..0");
        Check.due("one", copiedTo(2, 4, 1), "0..4:0..0 4..5:3..3 5..12:0..0");
        Check.due("all", copiedTo(0, 9, 3), "0..9:0..0 9..10:1..1 10..11:2..2 11..12:3..3");
        Script s = new Script();
        numbers(s, 0, 1, 2);
        int to = numbers(s, 1, 5, 6, 7);
        s.set(1, 1);
        s.copy(0, 1, 1, 1, 1);
        Check.due("what was there goes", s.segments(to), "0..1:5..5 1..2:2..2 2..3:7..7");
    }

    /** "(as far as both are below 12 ..)" */
    private static void copyBelowTwelve() {
        Check.due("y reaches 12", copiedTo(0, 10, 3), "0..10:0..0 10..11:1..1 11..12:2..2");
        Check.due("y is 11", copiedTo(0, 11, 3), "0..11:0..0 11..12:1..1");
        Check.due("y is 12", copiedTo(0, 12, 3), "0..12:0..0");
        Check.due("y is far", copiedTo(0, 1000000, 3), "0..12:0..0");
        Check.due("x is 12", copiedTo(12, 0, 3), "0..12:0..0");
        Check.due("x is far", copiedTo(1000000, 0, 3), "0..12:0..0");
        Check.due("z is far", copiedTo(0, 0, 1000000), "0..1:1..1 1..2:2..2 2..3:3..3 3..12:0..0");
        Script s = new Script();
        int site = s.makeOf(0, INT, 0, 12);
        for (int p = 0; p < 12; p += 11) {
            s.put(0, INT, p, p + 5);
        }
        s.set(1, 11);
        s.set(2, 1);
        s.set(3, 3);
        s.copy(0, 1, 0, 2, 3);
        Check.due("x reaches 12", s.segments(site), "0..1:5..5 1..2:16..16 2..11:0..0 11..12:16..16");
        s.setGreatest(3, 1);
        s.set(1, 11);
        s.copy(0, 1, 0, 2, 3);
        Check.due("z is the greatest int", s.segments(site), "0..1:5..5 1..2:16..16 2..11:0..0 11..12:16..16");
    }

    /** "as if all were read first" */
    private static void copyOverItself() {
        for (int k = 0; k < 2; k++) {
            Script s = new Script();
            int site = numbers(s, 0, 1, 2, 3, 4);
            s.set(1, k);
            s.set(2, 1 - k);
            s.set(3, 3);
            s.copy(0, 1, 0, 2, 3);
            String up = "0..2:1..1 2..3:2..2 3..4:3..3";
            String down = "0..1:2..2 1..2:3..3 2..4:4..4";
            Check.due("COPY from " + k, s.segments(site), k == 0 ? up : down);
        }
    }

    /** "greatest lengths are not looked at here" */
    private static void copyLooksAtNoLengths() {
        Script s = new Script();
        numbers(s, 0, 6, 7, 8);
        s.makeOf(1, INT, 0, 2);
        s.set(1, 0);
        s.set(2, 1);
        s.set(3, 3);
        s.copy(0, 1, 1, 2, 3);
        Check.due("beyond the length of s", allTwelve(s, 1, INT), "0..1:0..0 1..2:0..6 2..3:0..7 3..4:0..8 4..12:0..0");
        Script t = new Script();
        t.makeOf(0, INT, 0, 1);
        int to = numbers(t, 1, 6, 7, 8);
        t.set(0, 0);
        t.set(3, 3);
        t.copy(0, 0, 1, 0, 3);
        Check.due("beyond the length of r", t.segments(to), "0..3:0..0");
    }

    /** "Else each place of each SITE of s .. is JOINED with all places of all SITES of r" */
    private static void copyIsWeak() {
        int[][] rows = {{0, 1, 0, 0, 1, 1}, {0, 0, 0, 1, 1, 1}, {0, 0, 0, 0, 1, 2}};
        String[] due = {"0..1:0..6 1..4:0..0", "0..2:0..5 2..4:0..0", "0..2:0..6 2..4:0..0"};
        for (int k = 0; k < rows.length; k++) {
            Script s = new Script();
            numbers(s, 0, 5, 6, 7);
            int to = s.makeOf(1, INT, 0, 4);
            s.input(1, rows[k][0], rows[k][1]);
            s.input(2, rows[k][2], rows[k][3]);
            s.input(3, rows[k][4], rows[k][5]);
            s.copy(0, 1, 1, 2, 3);
            Check.due("one of x, y, z is not one number: " + k, s.segments(to), due[k]);
        }
        for (int k = 0; k < 2; k++) {
            Script s = new Script();
            int one = numbers(s, 0, 5, 6, 7);
            int two = numbers(s, 1, -1, -2, -3);
            s.either(2, 0, 1);
            s.set(1, 1);
            s.copy(k == 0 ? 2 : 0, 1, k == 0 ? 0 : 2, 1, 1);
            Check.due("two SITES of r or s", s.segments(one), k == 0 ? "0..1:5..5 1..2:-2..6 2..3:7..7"
                : "0..1:5..5 1..2:6..6 2..3:7..7");
            Check.due("the other one", s.segments(two), k == 0 ? "0..1:-1..-1 1..2:-2..-2 2..3:-3..-3"
                : "0..1:-1..-1 1..2:-2..6 2..3:-3..-3");
        }
    }

    /** "from the least y up to below the greatest y and z together"; "from the least x up to below the greatest x and z" */
    private static void copyUpToBelow() {
        Script s = new Script();
        numbers(s, 0, 9, 1, 2, 3, 9);
        int to = s.makeOf(1, INT, 0, 7);
        s.input(1, 1, 2);
        s.input(2, 2, 3);
        s.input(3, 1, 2);
        s.copy(0, 1, 1, 2, 3);
        Check.due("places 2 .. 4 get 1 .. 3", s.segments(to), "0..2:0..0 2..5:0..3 5..7:0..0");
    }

    /** "(and its greatest length)"; "(and their greatest lengths)" */
    private static void copyBelowEachLength() {
        Script s = new Script();
        s.makeOf(0, INT, 0, 12);
        s.set(1, 4);
        s.fill(0, INT, 2, 0, 1);
        s.input(0, 2, 3);
        s.make(1, INT, 0);
        s.input(3, 3, 4);
        s.copy(0, 2, 1, 2, 3);
        Check.due("s has three at most", allTwelve(s, 1, INT), "0..3:0..4 3..12:0..0");
        Script t = new Script();
        t.makeOf(0, INT, 0, 2);
        numbers(t, 1, 5, 6, 7);
        t.set(1, 1);
        t.set(2, 2);
        t.copy(1, 1, 0, 2, 1);
        int to = t.makeOf(2, INT, 0, 4);
        t.set(1, 1);
        t.input(3, 0, 2);
        t.copy(0, 1, 2, 1, 3);
        Check.due("what stands behind the end of r is not read", t.segments(to), "0..4:0..0");
    }

    /** "nothing, if the greatest z is 0" */
    private static void copyOfNone() {
        Script s = new Script();
        numbers(s, 0, 5, 6, 7);
        int to = s.makeOf(1, INT, 0, 4);
        s.input(1, 0, 2);
        s.input(2, 0, 3);
        s.copy(0, 1, 1, 2, 3);
        Check.due("z is 0", s.segments(to), "0..4:0..0");
        s.input(3, -4, 0);
        s.copy(0, 1, 1, 2, 3);
        Check.due("z is 0 at most", s.segments(to), "0..4:0..0");
        s.either(2, 0, 1);
        s.set(3, 0);
        s.copy(2, 1, 2, 2, 3);
        Check.due("z is 0, two SITES", s.segments(to), "0..4:0..0");
        s.input(3, 0, 1);
        s.copy(0, 1, 1, 2, 3);
        Check.due("z is 1 at most", s.segments(to), "0..4:0..7");
    }

    /** No place is there to be read, or to be written. */
    private static void copyFarAway() {
        Script s = new Script();
        int from = numbers(s, 0, 5, 6, 7);
        int to = s.makeOf(1, INT, 0, 4);
        s.input(1, 3, 4);
        s.set(3, 2);
        s.copy(0, 1, 1, 2, 3);
        Check.due("from behind the end of r", s.segments(to), "0..4:0..0");
        s.input(1, 4, 5);
        s.copy(0, 2, 1, 1, 3);
        Check.due("to behind the end of s", s.segments(to), "0..4:0..0");
        s.input(1, 3, 5);
        s.copy(0, 2, 1, 1, 3);
        Check.due("to the last of s", s.segments(to), "0..3:0..0 3..4:0..6");
        s.on.clear();
        int all = numbers(s, 0, 5, 6, 7);
        s.setGreatest(1, 2);
        s.input(2, 0, 1);
        s.copy(0, 2, 0, 1, 1);
        Check.due("the greatest int twice", s.segments(all), "0..1:5..5 1..2:6..6 2..3:7..7");
        s.copy(0, 2, 0, 2, 1);
        Check.due("z is the greatest int", s.segments(all), "0..3:5..7");
        Check.due("the same SITE as before", all, from);
    }

    private static String filled(int[] x, int[] y, int number) {
        Script s = new Script();
        s.input(0, 5, 8);
        int site = s.make(0, BYTE, 0);
        s.input(1, x[0], x[1]);
        s.input(2, y[0], y[1]);
        s.set(3, number);
        s.fill(0, BYTE, 1, 2, 3);
        return s.segments(site);
    }

    private static int[] span(int least, int greatest) {
        return new int[] {least, greatest};
    }

    /** "FILL: places from the least x .. up to below the greatest y .. are JOINED with z CAST to l" */
    private static void fillJoins() {
        Check.due("3 .. 6", filled(span(3, 5), span(2, 7), 4), "0..3:0..0 3..7:0..4 7..8:0..0");
        Check.due("one place perhaps", filled(span(3, 4), span(4, 4), 4), "0..3:0..0 3..4:0..4 4..8:0..0");
        Check.due("no place", filled(span(4, 5), span(3, 4), 4), "0..8:0..0");
        Check.due("CAST", filled(span(3, 4), span(4, 4), 128), "0..3:0..0 3..4:-128..127 4..8:0..0");
    }

    /** "(0 at least)" */
    private static void fillFromZero() {
        Check.due("from -1 or 1", filled(span(-1, 1), span(2, 2), 4), "0..1:0..4 1..2:4..4 2..8:0..0");
        Check.due("from far below", filled(span(-1000000, -1), span(2, 2), 4), "0..2:4..4 2..8:0..0");
        Check.due("below 0 alone", filled(span(-3, -2), span(-1, 0), 4), "0..8:0..0");
        Check.due("up to 0 or 1", filled(span(-3, -2), span(-1, 1), 4), "0..1:0..4 1..8:0..0");
    }

    /** "(12, the greatest length of the SITE at most)" */
    private static void fillUpToTheLength() {
        Check.due("up to 8 or 9", filled(span(6, 6), span(8, 9), 4), "0..6:0..0 6..8:4..4");
        Check.due("up to far above", filled(span(6, 7), span(6, 1000000), 4), "0..6:0..0 6..8:0..4");
        Check.due("from behind the end", filled(span(8, 8), span(9, 12), 4), "0..8:0..0");
        Script s = new Script();
        s.makeOf(0, INT, 0, 2);
        s.makeOf(1, INT, 0, 12);
        s.set(1, 1);
        s.set(2, 100);
        s.fill(0, INT, 1, 2, 1);
        Check.due("strong, behind the end", allTwelve(s, 0, INT), "0..1:0..0 1..2:0..1 2..12:0..0");
        s.either(2, 0, 1);
        s.set(3, 7);
        s.fill(2, INT, 1, 2, 3);
        Check.due("weak, behind the end", allTwelve(s, 0, INT), "0..1:0..0 1..2:0..7 2..12:0..0");
        Check.due("twelve", s.segments(3), "0..1:0..0 1..12:0..7");
    }

    /** "of all SITES that may have LANE l" */
    private static void fillOfTheLane() {
        Script s = new Script();
        int bytes = s.makeOf(0, BYTE, 0, 2);
        int ints = s.makeOf(1, INT, 0, 2);
        s.either(2, 0, 1);
        int both = s.copyOf(3, 2);
        s.either(2, 2, 3);
        s.set(1, 9);
        s.fill(2, BYTE, 2, 0, 1);
        Check.due("that LANE", s.segments(bytes), "0..2:0..9");
        Check.due("another LANE", s.segments(ints), "0..2:0..0");
        Check.due("that LANE or another", s.segments(both), "0..2:0..9");
        s.fill(3, INT, 2, 0, 2);
        Check.due("one SITE of two LANES", s.segments(both), "0..2:0..0");
        s.fill(1, CHAR, 2, 0, 1);
        Check.due("one SITE of another LANE", s.segments(ints), "0..2:0..0");
        s.fill(5, INT, 2, 0, 1);
        Check.due("no SITE", s.segments(ints), "0..2:0..0");
    }

    /** "but if r has one SITE, those from the greatest x up to below the least y are that" */
    private static void fillIsStrong() {
        Check.due("2 .. 4 are", filled(span(1, 2), span(5, 6), 4), "0..1:0..0 1..2:0..4 2..5:4..4 5..6:0..4 6..8:0..0");
        Check.due("one place is", filled(span(1, 2), span(3, 4), 4), "0..1:0..0 1..2:0..4 2..3:4..4 3..4:0..4 4..8:0..0");
        Check.due("none is", filled(span(1, 2), span(2, 4), 4), "0..1:0..0 1..4:0..4 4..8:0..0");
        Check.due("all are", filled(span(0, 0), span(8, 8), 4), "0..8:4..4");
        Check.due("that is CAST", filled(span(0, 0), span(8, 8), 128), "0..8:-128..127");
        Script s = new Script();
        int site = numbers(s, 0, 5, 6, 7);
        s.either(1, 0, 3);
        s.set(1, 1);
        s.set(2, 2);
        s.fill(1, INT, 1, 2, 1);
        Check.due("NULL is no SITE; what was there goes", s.segments(site), "0..1:5..5 1..2:1..1 2..3:7..7");
    }

    /** Two SITES: they are JOINED alone, even where one of them alone may have LANE l. */
    private static void fillIsWeak() {
        Script s = new Script();
        int one = s.makeOf(0, INT, 0, 2);
        int two = s.makeOf(1, INT, 0, 3);
        s.either(2, 0, 1);
        s.set(1, 9);
        s.fill(2, INT, 2, 0, 1);
        Check.due("the first", s.segments(one), "0..2:0..9");
        Check.due("the second", s.segments(two), "0..3:0..9");
        int bytes = s.makeOf(3, BYTE, 0, 2);
        s.either(4, 0, 3);
        s.fill(4, BYTE, 2, 0, 1);
        Check.due("one of that LANE, one of another", s.segments(bytes), "0..2:0..9");
        Check.due("the other is as it was", s.segments(one), "0..2:0..9");
    }

    /** "EITHER: the JOIN of s and t." */
    private static void eitherJoins() {
        Script s = new Script();
        int one = s.makeOf(0, INT, 0, 2);
        int two = s.makeOf(1, INT, 0, 2);
        s.either(2, 0, 1);
        Check.due("two SITES, no NULL", s.on.reference(2), 4);
        Check.due("one", s.on.means(2, one), 1);
        Check.due("two", s.on.means(2, two), 1);
        s.either(3, 0, 5);
        Check.due("t NULL", s.on.reference(3), 3);
        s.either(4, 5, 0);
        Check.due("s NULL", s.on.reference(4), 3);
        s.either(4, 5, 5);
        Check.due("both NULL", s.on.reference(4), 1);
        s.either(0, 0, 0);
        Check.due("itself", s.on.reference(0), 2);
        s.either(0, 1, 5);
        Check.due("what r meant is gone", s.on.means(0, one), 0);
    }

    /** "MAYBE: behind its ACTS FACTS are the JOIN of those ahead of it and those behind them" */
    private static void maybeJoins() {
        Script s = new Script();
        s.set(0, 3);
        int one = s.make(0, INT, 0);
        s.maybe(4);
        s.set(1, 2);
        s.set(2, -5);
        s.write(0, INT, 1, 2);
        s.none(0);
        s.add(3, 1, 1);
        Check.due("greatest", s.span(1), "0..2");
        Check.due("least", s.span(2), "-5..0");
        Check.due("as they were", s.span(0), "3..3");
        Check.due("behind it with both", s.span(3), "0..4");
        Check.due("NULL or the SITE", s.on.reference(0), 3);
        Check.due("places", s.segments(one), "0..2:0..0 2..3:-5..0");
        s.maybe(1);
        s.length(4, 0);
        Check.due("NULL again, that it was ahead", s.on.reference(0), 3);
    }

    /** "of ARRAYS that there were not yet those that are told" */
    private static void maybeWithNewArrays() {
        Script s = new Script();
        s.maybe(4);
        s.set(0, 2);
        int made = s.make(0, BYTE, 0);
        s.write(0, BYTE, 1, 0);
        int cloned = s.copyOf(1, 0);
        Check.due("NEW", s.segments(made), "0..1:2..2 1..2:0..0");
        Check.due("its length", s.on.array(made, 1), 2);
        Check.due("its LANE", s.on.array(made, 0), 1);
        Check.due("CLONE", s.segments(cloned), "0..1:2..2 1..2:0..0");
        Check.due("NULL or it", s.on.reference(1), 3);
        Check.due("SITES", s.on.told(4), 2);
    }

    /** "of what is not REACHED nothing"; "An ARRAY whose SITE was not REACHED has no FACTS." */
    private static void maybeOfUnreached() {
        Script s = new Script();
        s.set(0, 2);
        int ahead = s.make(0, INT, 0);
        s.maybe(5);
        s.write(0, INT, 1, 0);
        int lost = s.make(1, INT, 0);
        s.none(0);
        s.length(2, 5);
        int never = s.copyOf(0, 0);
        Check.due("ARRAY ahead of it", s.segments(ahead), "0..2:0..0");
        Check.due("REFERENCE ahead of it", s.on.reference(0), 2);
        Check.due("made on a way that ends", s.on.array(lost, 0), -1);
        Check.due("its SITE was not REACHED", s.on.array(never, 0), -1);
        Check.due("nor its segment", s.on.segment(never, 0, 0), -1);
        Check.due("r is NULL", s.on.reference(1), 1);
        Check.due("SITES", s.on.told(4), 1);
        s.maybe(1);
        s.make(3, INT, 2);
        Check.due("a MAYBE behind it", s.on.reference(3), 3);
        Check.due("SITES then", s.on.told(4), 2);
    }

    /** "the PROGRAM's end ends it" */
    private static void maybeAtTheEnd() {
        Script s = new Script();
        s.maybe(10);
        Check.due("MAYBE alone", s.on.ends(), 1);
        s.set(0, 5);
        Check.due("one ACT of ten", s.span(0), "0..5");
        s.length(1, 5);
        Check.due("its end must throw", s.span(0), "0..0");
        Check.due("the end is REACHED", s.on.ends(), 1);
        Script ten = new Script();
        ten.set(1, 1);
        ten.maybe(10);
        for (int k = 0; k < 11; k++) {
            ten.add(0, 0, 1);
        }
        Check.due("ten or none, and one behind", ten.span(0), "1..11");
        Script within = new Script();
        within.maybe(2);
        within.maybe(10);
        within.set(0, 1);
        within.set(1, 1);
        Check.due("a MAYBE among them is one of them", within.span(0), "0..1");
        Check.due("and does nothing", within.span(1), "1..1");
    }
}
