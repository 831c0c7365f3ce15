/**
 * The boundary cases of '2 FACTS': a method for each sentence that names one, with the sentence above it
 * and answers worked out by hand.
 */
public final class FactEdgesTest {
    private static final int NULL = 1 << 1;
    private static final int CAST = 1 << 2;
    private static final int SIZE = 1 << 3;
    private static final int STORE = 1 << 4;
    private static final int INDEX = 1 << 5;
    private static final int ROOM = 1 << 7;
    private static final int BYTE = Script.BYTE;
    private static final int CHAR = Script.CHAR;
    private static final int INT = Script.INT;
    private static final String ALL_INTS = "-2147483648..2147483647";

    private FactEdgesTest() {
    }

    public static void main(String[] args) {
        sumsUpToTheEnds();
        sumsBeyondTheEnds();
        castOfAllInts();
        lengthsOfNew();
        nullOfEachUse();
        castIfSomeLane();
        storeIfSomeLanes();
        indexOfPlaces();
        indexBeforeNarrowing();
        indexOfCopyBelowZero();
        indexOfCopyTooFew();
        indexOfCopyBeyondInts();
        fillThatMayWrite();
        fillThatMayNot();
        indexOfFill();
        eachLookedAtByItself();
        notNullBehindEachUse();
        onlyTheReferenceUsed();
        noSiteWithoutTheLane();
        placeBelowTheGreatest();
        copyNumbersFromZero();
        oneAfterTheOther();
        fillNarrowsNothing();
        nothingLeftOfSpan();
        nothingLeftOfReference();
        nothingLeftWithinMaybe();
        Check.finish();
    }

    private static int throwsOf(Script s, int act) {
        return s.on.throwsAt(act);
    }

    /** An array whose length is any of these, with the length's VARIABLE 0 left behind. */
    private static int makeBetween(Script s, int r, int lane, int least, int greatest) {
        s.input(0, least, greatest);
        return s.make(r, lane, 0);
    }

    /** "ADD, LESS: the SPAN of all outcomes without going round" */
    private static void sumsUpToTheEnds() {
        Script up = new Script();
        up.setGreatest(0, 1);
        up.set(1, 1);
        up.less(0, 0, 1);
        up.input(2, 0, 1);
        up.add(3, 0, 2);
        Check.due("up to the greatest int", up.span(3), "2147483646..2147483647");
        Script down = new Script();
        down.setLeast(0);
        down.set(1, 1);
        down.add(0, 0, 1);
        down.input(2, 0, 1);
        down.less(3, 0, 2);
        Check.due("down to the least int", down.span(3), "-2147483648..-2147483647");
        down.set(4, -1);
        down.less(5, 4, 3);
        Check.due("LESS takes the greatest from the least", down.span(5), "2147483646..2147483647");
    }

    /** "that of all ints, if an end is beyond these" */
    private static void sumsBeyondTheEnds() {
        Script s = new Script();
        s.setGreatest(0, 1);
        s.set(1, 1);
        s.input(2, 0, 1);
        s.add(3, 0, 2);
        Check.due("the greatest end alone is beyond", s.span(3), ALL_INTS);
        s.add(3, 0, 0);
        Check.due("both ends are beyond", s.span(3), ALL_INTS);
        s.less(4, 5, 0);
        s.less(4, 4, 1);
        Check.due("the least int", s.span(4), "-2147483648..-2147483648");
        s.less(3, 4, 2);
        Check.due("the least end alone is beyond", s.span(3), ALL_INTS);
        s.less(3, 5, 4);
        Check.due("0 - the least int", s.span(3), ALL_INTS);
        s.set(1, -1);
        s.add(3, 4, 1);
        Check.due("the least int and -1", s.span(3), ALL_INTS);
        s.set(1, 1);
        s.add(3, 3, 3);
        Check.due("all ints twice", s.span(3), ALL_INTS);
        s.less(3, 3, 1);
        Check.due("all ints less 1", s.span(3), ALL_INTS);
        s.add(3, 3, 5);
        Check.due("all ints and 0", s.span(3), ALL_INTS);
        Check.due("they hold", s.on.holds(1L), 1);
    }

    /** "CAST: the SPAN, if all of it fits the LANE, else all of the LANE." */
    private static void castOfAllInts() {
        String[] due = {"0..1:-128..127", "0..1:0..65535", "0..1:-2147483648..2147483647"};
        for (int lane = 0; lane < 3; lane++) {
            Script s = new Script();
            s.setGreatest(0, 1);
            s.add(0, 0, 0);
            int site = s.makeOf(0, lane, 1, 1);
            s.write(0, lane, 2, 0);
            Check.due("WRITE of all ints, LANE " + lane, s.segments(site), due[lane]);
            s.set(2, 0);
            s.set(3, 5);
            s.write(0, lane, 2, 3);
            Check.due("WRITE of 5, LANE " + lane, s.segments(site), "0..1:5..5");
            s.fill(0, lane, 2, 1, 0);
            Check.due("FILL of all ints, LANE " + lane, s.segments(site), due[lane]);
        }
        int[][] edges = {{-128, 127, -129, 128}, {0, 65535, -1, 65536}};
        for (int lane = 0; lane < 2; lane++) {
            for (int k = 0; k < 4; k++) {
                int number = edges[lane][k];
                Script s = new Script();
                int site = s.makeOf(0, lane, 1, 1);
                s.set(2, number);
                s.fill(0, lane, 3, 1, 2);
                String fits = "0..1:" + number + ".." + number;
                Check.due("FILL of " + number + ", LANE " + lane, s.segments(site), k < 2 ? fits : due[lane]);
            }
        }
    }

    private static void newOf(int least, int greatest, int due, String left) {
        Script s = new Script();
        int site = makeBetween(s, 0, INT, least, greatest);
        String what = "NEW of " + least + ".." + greatest;
        Check.due(what, throwsOf(s, site), due);
        if (left.isEmpty()) {
            Check.due(what + ": nothing behind", s.on.ends(), 0);
        } else {
            Check.due(what + ": what is left", s.span(0), left);
            Check.due(what + ": its length", s.on.array(site, 1) + ".." + s.on.array(site, 2), left);
        }
    }

    /** "ROOM, SIZE by the SPAN of the length"; "a length of NEW is 0 .. 12" */
    private static void lengthsOfNew() {
        newOf(0, 12, 0, "0..12");
        newOf(-1, 12, SIZE, "0..12");
        newOf(0, 13, ROOM, "0..12");
        newOf(-1, 13, SIZE | ROOM, "0..12");
        newOf(12, 13, ROOM, "12..12");
        newOf(-1, 0, SIZE, "0..0");
        newOf(13, 13, ROOM, "");
        newOf(-1, -1, SIZE, "");
        newOf(-1000000, 1000000, SIZE | ROOM, "0..12");
        Script s = new Script();
        s.setGreatest(0, 1);
        s.add(0, 0, 0);
        int site = s.make(0, BYTE, 0);
        Check.due("NEW of all ints", throwsOf(s, site), SIZE | ROOM);
        Check.due("NEW of all ints: what is left", s.span(0), "0..12");
        Check.due("all places 0 .. 0", s.segments(site), "0..12:0..0");
    }

    /** The use of REFERENCE r, of one INT array with 3 places or of NULL. */
    private static int use(Script s, int which, int r) {
        switch (which) {
            case 0:
                return s.copyOf(5, r);
            case 1:
                return s.write(r, INT, 1, 1);
            case 2:
                return s.read(1, r, INT, 1);
            case 3:
                return s.copy(r, 1, 0, 1, 1);
            case 4:
                return s.copy(0, 1, r, 1, 1);
            case 5:
                return s.length(1, r);
            default:
                return s.fill(r, INT, 1, 0, 1);
        }
    }

    /** "it MAY THROW each that some numbers, SITES, NULL, LANES as told could" */
    private static void nullOfEachUse() {
        for (int which = 0; which < 7; which++) {
            Script s = new Script();
            s.makeOf(0, INT, 0, 3);
            s.same(1, 0);
            s.either(2, 0, 4);
            Check.due("not NULL, use " + which, throwsOf(s, use(s, which, 1)), 0);
            Check.due("may be NULL, use " + which, throwsOf(s, use(s, which, 2)), NULL);
            Check.due("is NULL, use " + which, throwsOf(s, use(s, which, 3)), NULL);
        }
        Script none = new Script();
        none.same(0, 1);
        none.either(2, 3, 4);
        none.none(5);
        Check.due("SAME, EITHER, NONE use none", none.on.told(3), 0);
    }

    /** "CAST .. if some SITE may have a LANE that is not l" */
    private static void castIfSomeLane() {
        Script s = new Script();
        s.makeOf(0, INT, 0, 3);
        s.make(1, BYTE, 0);
        s.either(2, 0, 1);
        int mixed = s.copyOf(3, 2);
        Check.due("one SITE of two LANES", s.on.array(mixed, 0), 5);
        Check.due("its own LANE", throwsOf(s, s.write(0, INT, 1, 1)), 0);
        Check.due("one of two LANES, WRITE", throwsOf(s, s.write(3, INT, 1, 1)), CAST);
        Check.due("one of two LANES, READ", throwsOf(s, s.read(1, 3, BYTE, 1)), CAST);
        s.set(1, 0);
        Check.due("one of two LANES, FILL", throwsOf(s, s.fill(3, BYTE, 1, 0, 1)), CAST);
        Check.due("one of two SITES, FILL", throwsOf(s, s.fill(2, INT, 1, 0, 1)), CAST);
        Check.due("one of two SITES, READ", throwsOf(s, s.read(1, 2, INT, 1)), CAST);
        Check.due("the other is gone", throwsOf(s, s.write(2, INT, 1, 1)), 0);
        Check.due("one SITE of two LANES is left", s.on.means(3, mixed), 1);
        Check.due("neither", throwsOf(s, s.write(3, CHAR, 1, 1)), CAST);
        Check.due("nothing behind", s.on.ends(), 0);
    }

    /** "STORE: if .. two SITES, one of r and one of s, may have unlike LANES" */
    private static void storeIfSomeLanes() {
        Script s = new Script();
        s.makeOf(0, INT, 0, 3);
        s.make(1, BYTE, 0);
        s.make(2, INT, 0);
        s.either(3, 0, 1);
        s.either(4, 2, 5);
        Check.due("like LANES", throwsOf(s, s.copy(0, 1, 2, 1, 1)), 0);
        Check.due("onto itself", throwsOf(s, s.copy(1, 1, 1, 1, 1)), 0);
        Check.due("unlike LANES", throwsOf(s, s.copy(0, 1, 1, 1, 1)), STORE);
        Check.due("unlike LANES the other way", throwsOf(s, s.copy(1, 1, 0, 1, 1)), STORE);
        Check.due("unlike for some SITE of r", throwsOf(s, s.copy(3, 1, 2, 1, 1)), STORE);
        Check.due("unlike for some SITE of s", throwsOf(s, s.copy(2, 1, 3, 1, 1)), STORE);
        Check.due("two of each", throwsOf(s, s.copy(3, 1, 3, 1, 1)), STORE);
        Check.due("STORE narrows no SITES", s.on.reference(3), 4);
        Check.due("NULL or the same LANE", throwsOf(s, s.copy(4, 1, 0, 1, 1)), NULL);
        s.copyOf(5, 3);
        Check.due("a SITE of two LANES", throwsOf(s, s.copy(5, 1, 0, 1, 1)), STORE);
        s.none(5);
        Check.due("no SITE of r: no STORE", throwsOf(s, s.copy(5, 1, 1, 1, 1)), NULL);
    }

    private static void indexAt(int least, int greatest, int due) {
        Script s = new Script();
        makeBetween(s, 0, INT, 3, 5);
        s.input(1, least, greatest);
        int read = s.read(2, 0, INT, 1);
        Check.due("READ at " + least + ".." + greatest + " of 3..5", throwsOf(s, read), due);
        s.on.drop(read);
        int write = s.write(0, INT, 1, 2);
        Check.due("WRITE at " + least + ".." + greatest + " of 3..5", throwsOf(s, write), due);
    }

    /** "INDEX: WRITE, READ: if the SPAN of the place goes below 0, or its greatest is not below the least length of some SITE" */
    private static void indexOfPlaces() {
        indexAt(0, 2, 0);
        indexAt(-1, 2, INDEX);
        indexAt(0, 3, INDEX);
        indexAt(3, 3, INDEX);
        indexAt(-1, -1, INDEX);
        Script s = new Script();
        s.makeOf(0, INT, 0, 5);
        s.makeOf(1, INT, 0, 2);
        s.either(2, 0, 1);
        s.set(1, 1);
        Check.due("below both lengths", throwsOf(s, s.read(3, 2, INT, 1)), 0);
        s.set(1, 2);
        Check.due("not below the length of some SITE", throwsOf(s, s.read(3, 2, INT, 1)), INDEX);
        s.setGreatest(3, 4);
        Check.due("the greatest int", throwsOf(s, s.write(0, INT, 3, 1)), INDEX);
        Check.due("nothing behind", s.on.ends(), 0);
    }

    /** A SITE that the LANE will rule out is "some SITE" yet. */
    private static void indexBeforeNarrowing() {
        Script s = new Script();
        s.makeOf(0, INT, 0, 5);
        s.makeOf(1, BYTE, 0, 1);
        s.either(2, 0, 1);
        s.either(3, 0, 1);
        s.set(1, 4);
        Check.due("READ: 4 is not below 1", throwsOf(s, s.read(3, 2, INT, 1)), CAST | INDEX);
        Check.due("READ: 4 is below 5", throwsOf(s, s.read(3, 2, INT, 1)), 0);
        Check.due("FILL: 4 is above 1", throwsOf(s, s.fill(3, INT, 5, 1, 5)), CAST | INDEX);
        Check.due("FILL again, for it narrows nothing", throwsOf(s, s.fill(3, INT, 5, 1, 5)), CAST | INDEX);
        Check.due("WRITE: 4 is not below 1", throwsOf(s, s.write(3, INT, 1, 5)), CAST | INDEX);
        Check.due("WRITE: 4 is below 5", throwsOf(s, s.write(3, INT, 1, 5)), 0);
        Check.due("FILL: 4 is not above 5", throwsOf(s, s.fill(3, INT, 5, 1, 5)), 0);
    }

    private static int copyOf(int[] x, int[] y, int[] z) {
        Script s = new Script();
        makeBetween(s, 0, INT, 5, 7);
        makeBetween(s, 1, INT, 6, 8);
        s.input(1, x[0], x[1]);
        s.input(2, y[0], y[1]);
        s.input(3, z[0], z[1]);
        return throwsOf(s, s.copy(0, 1, 1, 2, 3));
    }

    private static int[] span(int least, int greatest) {
        return new int[] {least, greatest};
    }

    /** "COPY: if x, y or z may be below 0" */
    private static void indexOfCopyBelowZero() {
        int[] zero = span(0, 0);
        int[] below = span(-1, 0);
        Check.due("none below 0", copyOf(zero, zero, zero), 0);
        Check.due("x below 0", copyOf(below, zero, zero), INDEX);
        Check.due("y below 0", copyOf(zero, below, zero), INDEX);
        Check.due("z below 0", copyOf(zero, zero, below), INDEX);
        Check.due("z below 0 always", copyOf(zero, zero, span(-1, -1)), INDEX);
    }

    /** "or the greatest of x and of z together are above the least length of some SITE of r, or those of y and z of s" */
    private static void indexOfCopyTooFew() {
        int[] zero = span(0, 0);
        Check.due("5 of 5", copyOf(zero, zero, span(0, 5)), 0);
        Check.due("6 of 5", copyOf(zero, zero, span(0, 6)), INDEX);
        Check.due("2 and 3 of 5", copyOf(span(0, 2), zero, span(0, 3)), 0);
        Check.due("3 and 3 of 5", copyOf(span(0, 3), zero, span(0, 3)), INDEX);
        Check.due("3 and 3 of 6", copyOf(zero, span(0, 3), span(0, 3)), 0);
        Check.due("4 and 3 of 6", copyOf(zero, span(0, 4), span(0, 3)), INDEX);
        Check.due("5 and 0 of 5", copyOf(span(5, 5), zero, zero), 0);
        Check.due("6 and 0 of 5", copyOf(span(6, 6), zero, zero), INDEX);
        Check.due("6 and 0 of 6", copyOf(zero, span(6, 6), zero), 0);
        Check.due("7 and 0 of 6", copyOf(zero, span(7, 7), zero), INDEX);
        Script s = new Script();
        s.makeOf(0, INT, 0, 5);
        s.makeOf(1, INT, 0, 2);
        s.either(2, 0, 1);
        s.set(1, 3);
        Check.due("long enough", throwsOf(s, s.copy(0, 5, 0, 5, 1)), 0);
        Check.due("some SITE of r has too few", throwsOf(s, s.copy(2, 5, 0, 5, 1)), INDEX);
        Check.due("some SITE of s has too few", throwsOf(s, s.copy(0, 5, 2, 5, 1)), INDEX);
    }

    /** Together they are above all ints, and above each length all the same. */
    private static void indexOfCopyBeyondInts() {
        int[][] rows = {{1, 2, 1}, {2, 1, 1}, {1, 2, 3}, {2, 1, 3}};
        for (int[] row : rows) {
            Script s = new Script();
            int site = s.makeOf(0, INT, 0, 5);
            s.setGreatest(1, 3);
            s.set(3, 1);
            s.input(2, 0, 1);
            Check.due("the greatest int and more", throwsOf(s, s.copy(0, row[0], 0, row[1], row[2])), INDEX);
            Check.due("it goes on", s.segments(site), "0..5:0..0");
        }
    }

    private static int fillOf(int r, int lane, int[] x, int[] y) {
        Script s = new Script();
        makeBetween(s, 0, INT, 3, 5);
        s.makeOf(1, BYTE, 4, 4);
        s.either(2, 0, 5);
        s.either(3, 0, 1);
        s.input(1, x[0], x[1]);
        s.input(2, y[0], y[1]);
        return throwsOf(s, s.fill(r, lane, 1, 2, 3));
    }

    /** "FILL: if it may do a WRITE (the least x is below the greatest y)" */
    private static void fillThatMayWrite() {
        Check.due("NULL", fillOf(2, INT, span(2, 2), span(0, 3)), NULL);
        Check.due("NULL alone", fillOf(5, INT, span(2, 2), span(3, 3)), NULL);
        Check.due("CAST", fillOf(0, BYTE, span(2, 9), span(3, 3)), CAST);
        Check.due("CAST of some SITE", fillOf(3, INT, span(2, 9), span(0, 3)), CAST);
        Check.due("NULL, CAST, INDEX", fillOf(2, CHAR, span(-1, 9), span(0, 4)), NULL | CAST | INDEX);
    }

    /** "NULL, CAST of FILL if it may do a WRITE alone" */
    private static void fillThatMayNot() {
        int[][] rows = {{2, 2, 2, 2}, {3, 9, 0, 3}, {9, 9, 9, 9}, {-1, -1, -5, -1}, {-1, 5, -1, -1}};
        for (int[] row : rows) {
            int[] x = span(row[0], row[1]);
            int[] y = span(row[2], row[3]);
            Check.due("no WRITE, NULL", fillOf(5, INT, x, y), 0);
            Check.due("no WRITE, perhaps NULL", fillOf(2, INT, x, y), 0);
            Check.due("no WRITE, CAST", fillOf(0, CHAR, x, y), 0);
            Check.due("no WRITE, INDEX", fillOf(0, INT, x, y), 0);
        }
    }

    /** "and the least x is below 0, or the greatest y is above the least length of some SITE" */
    private static void indexOfFill() {
        Check.due("0 up to 3 of 3..5", fillOf(0, INT, span(0, 0), span(3, 3)), 0);
        Check.due("perhaps up to 4", fillOf(0, INT, span(0, 0), span(3, 4)), INDEX);
        Check.due("perhaps from -1", fillOf(0, INT, span(-1, 0), span(3, 3)), INDEX);
        Check.due("perhaps one WRITE at -1", fillOf(0, INT, span(-1, 4), span(-3, 0)), INDEX);
        Check.due("from 3 up to 4", fillOf(0, INT, span(3, 3), span(4, 4)), INDEX);
        Check.due("some SITE has 3 alone", fillOf(3, INT, span(0, 0), span(4, 4)), CAST | INDEX);
        Check.due("no SITE has too few", fillOf(5, INT, span(0, 0), span(90, 90)), NULL);
        Check.due("no SITE, but below 0", fillOf(5, INT, span(-1, 0), span(90, 90)), NULL | INDEX);
    }

    /** "each looked at by itself": a THROW that another one always comes ahead of. */
    private static void eachLookedAtByItself() {
        Script s = new Script();
        s.makeOf(0, INT, 0, 3);
        s.make(1, BYTE, 0);
        s.set(1, -1);
        s.either(2, 0, 5);
        int write = s.write(2, CHAR, 1, 1);
        Check.due("NULL, CAST, INDEX", throwsOf(s, write), NULL | CAST | INDEX);
        s.on.drop(write);
        int copy = s.copy(2, 1, 1, 1, 1);
        Check.due("NULL, STORE, INDEX", throwsOf(s, copy), NULL | STORE | INDEX);
        s.on.drop(copy);
        int of = s.read(3, 4, INT, 1);
        Check.due("NULL always, INDEX by the number", throwsOf(s, of), NULL | INDEX);
    }

    /** "a REFERENCE used is not NULL" */
    private static void notNullBehindEachUse() {
        for (int which = 0; which < 6; which++) {
            Script s = new Script();
            s.makeOf(0, INT, 0, 3);
            s.either(2, 0, 4);
            use(s, which, 2);
            Check.due("behind use " + which, s.on.reference(2), 2);
            Check.due("again, use " + which, throwsOf(s, use(s, which, 2)), 0);
        }
        Script both = new Script();
        both.makeOf(0, INT, 0, 3);
        both.either(1, 0, 4);
        both.either(2, 0, 4);
        both.copy(1, 1, 2, 1, 1);
        Check.due("r of COPY", both.on.reference(1), 2);
        Check.due("s of COPY", both.on.reference(2), 2);
    }

    /** Another REFERENCE may mean the same, but is not the one used. */
    private static void onlyTheReferenceUsed() {
        Script s = new Script();
        s.makeOf(0, INT, 0, 3);
        s.make(1, BYTE, 0);
        s.either(2, 0, 1);
        s.either(2, 2, 5);
        s.same(3, 2);
        s.write(2, BYTE, 1, 1);
        Check.due("the one used", s.on.reference(2), 2);
        Check.due("the other one", s.on.reference(3), 5);
    }

    /** "and (WRITE, READ) means no SITE that can not have LANE l" */
    private static void noSiteWithoutTheLane() {
        for (int which = 0; which < 6; which++) {
            Script s = new Script();
            int ints = s.makeOf(0, INT, 0, 3);
            s.make(1, BYTE, 0);
            s.either(2, 0, 1);
            int mixed = s.copyOf(3, 2);
            s.either(2, 2, 3);
            use(s, which, 2);
            boolean narrows = which == 1 || which == 2;
            Check.due("SITES behind use " + which, s.on.reference(2), narrows ? 4 : 6);
            Check.due("the INT one, use " + which, s.on.means(2, ints), 1);
            Check.due("the one of both LANES, use " + which, s.on.means(2, mixed), 1);
            Check.due("its LANES are left, use " + which, s.on.array(mixed, 0), 5);
        }
    }

    private static String placeBehind(int least, int greatest) {
        Script s = new Script();
        makeBetween(s, 0, INT, 3, 5);
        s.makeOf(1, BYTE, 0, 9);
        s.either(2, 0, 1);
        s.input(1, least, greatest);
        int read = s.read(3, 2, INT, 1);
        String behind = s.span(1);
        s.on.drop(read);
        s.write(2, INT, 1, 3);
        Check.due("WRITE, READ narrow alike", s.span(1), behind);
        return behind;
    }

    /** "a place of WRITE, READ is 0 at least and below the greatest length of the SITES that are left" */
    private static void placeBelowTheGreatest() {
        Check.due("inside", placeBehind(1, 3), "1..3");
        Check.due("both ends", placeBehind(-1, 5), "0..4");
        Check.due("up to the last", placeBehind(0, 4), "0..4");
        Check.due("the last alone", placeBehind(4, 8), "4..4");
        Check.due("the first alone", placeBehind(-9, 0), "0..0");
        Check.due("nothing is left above", placeBehind(5, 8), "-3..-3");
        Check.due("nothing is left below", placeBehind(-9, -1), "-3..-3");
    }

    /** "x, y, z of COPY are 0 at least" */
    private static void copyNumbersFromZero() {
        for (int k = 1; k <= 3; k++) {
            Script s = new Script();
            s.makeOf(0, INT, 0, 5);
            s.input(k, -1, 100);
            s.copy(0, 1, 0, 2, 3);
            Check.due("from 0, up as before: number " + k, s.span(k), "0..100");
            s.input(k, -1, 0);
            s.copy(0, 1, 0, 2, 3);
            Check.due("0 is left: number " + k, s.span(k), "0..0");
            s.set(k, -1);
            s.copy(0, 1, 0, 2, 3);
            Check.due("nothing is left: number " + k, s.on.ends(), 0);
        }
    }

    /** "NARROWED, one after the other: the REFERENCE r, s; then VARIABLES as they stand here." */
    private static void oneAfterTheOther() {
        Script s = new Script();
        int site = s.makeOf(0, INT, 0, 4);
        s.input(1, -5, 9);
        s.write(0, INT, 1, 1);
        Check.due("WRITE of the place at the place", s.segments(site), "0..4:0..3");
        s.input(2, -5, 9);
        s.read(2, 0, INT, 2);
        Check.due("READ into the place", s.span(2), "0..3");
        s.input(3, -2, 1);
        s.copy(0, 3, 0, 3, 3);
        Check.due("x, y, z are one VARIABLE", s.span(3), "0..1");
        s.either(1, 0, 5);
        s.copy(1, 3, 1, 3, 3);
        Check.due("r and s are one REFERENCE", s.on.reference(1), 2);
        Check.due("twice the same NULL", throwsOf(s, 9), NULL);
        s.input(4, -2, 2);
        int made = s.make(1, CHAR, 4);
        s.copyOf(1, 1);
        Check.due("NEW onto what was used", s.on.array(made, 2), 2);
    }

    /** "FILL narrows nothing." */
    private static void fillNarrowsNothing() {
        Script s = new Script();
        s.makeOf(0, INT, 0, 4);
        s.make(1, BYTE, 0);
        s.either(2, 0, 1);
        s.either(2, 2, 5);
        s.input(1, -5, 9);
        s.input(3, -6, 20);
        s.fill(2, INT, 1, 3, 3);
        Check.due("the REFERENCE", s.on.reference(2), 5);
        Check.due("x", s.span(1), "-5..9");
        Check.due("y, z", s.span(3), "-6..20");
        s.set(1, 0);
        s.set(3, 9);
        s.fill(5, INT, 1, 3, 3);
        s.fill(0, CHAR, 1, 3, 3);
        s.fill(0, INT, 1, 3, 3);
        Check.due("all of them must throw, FACTS go on", s.on.ends(), 1);
    }

    private static void endsBehind(String what, Script s, int act) {
        int next = s.set(0, 0);
        Check.due(what + ": it is REACHED", s.on.reached(act), 1);
        Check.due(what + ": nothing behind is", s.on.reached(next), 0);
        Check.due(what + ": nor the end", s.on.ends(), 0);
        s.on.drop(act);
        Check.due(what + ": dropped, it is", s.on.reached(next), 1);
        Check.due(what + ": and the end", s.on.ends(), 1);
    }

    private static Script withArrays() {
        Script s = new Script();
        s.makeOf(0, INT, 0, 3);
        s.makeOf(1, INT, 0, 0);
        s.set(1, -1);
        s.set(2, 3);
        return s;
    }

    /** "If nothing is left of a SPAN .., nothing behind is REACHED" */
    private static void nothingLeftOfSpan() {
        Script s = withArrays();
        endsBehind("NEW below 0", s, s.make(2, INT, 1));
        endsBehind("WRITE below 0", s, s.write(0, INT, 1, 1));
        endsBehind("READ below 0", s, s.read(3, 0, INT, 1));
        endsBehind("WRITE at the length", s, s.write(0, INT, 2, 1));
        endsBehind("READ at the length", s, s.read(3, 0, INT, 2));
        endsBehind("WRITE to no places", s, s.write(1, INT, 0, 1));
        endsBehind("READ of no places", s, s.read(3, 1, INT, 0));
        endsBehind("COPY from below 0", s, s.copy(0, 1, 0, 0, 0));
        endsBehind("COPY to below 0", s, s.copy(0, 0, 0, 1, 0));
        endsBehind("COPY of fewer than 0", s, s.copy(0, 0, 0, 0, 1));
        s.on.clear();
        s.set(1, 13);
        endsBehind("NEW above 12", s, s.make(2, INT, 1));
    }

    /** "or a REFERENCE (no SITE)" */
    private static void nothingLeftOfReference() {
        Script s = withArrays();
        endsBehind("CLONE of NULL", s, s.copyOf(2, 5));
        endsBehind("WRITE to NULL", s, s.write(5, INT, 0, 0));
        endsBehind("READ of NULL", s, s.read(3, 5, INT, 0));
        endsBehind("COPY from NULL", s, s.copy(5, 0, 0, 0, 0));
        endsBehind("COPY to NULL", s, s.copy(0, 0, 5, 0, 0));
        endsBehind("LENGTH of NULL", s, s.length(0, 5));
        endsBehind("WRITE, no SITE of the LANE", s, s.write(0, BYTE, 0, 0));
        endsBehind("READ, no SITE of the LANE", s, s.read(3, 0, CHAR, 0));
        int store = s.make(3, BYTE, 2);
        Check.due("STORE leaves its SITES", throwsOf(s, s.copy(0, 0, 3, 0, 0)), STORE);
        Check.due("so FACTS go on", s.on.ends(), 1);
        Check.due("with the BYTE one", s.on.array(store, 0), 1);
    }

    /** "(within a MAYBE: nothing of it)" */
    private static void nothingLeftWithinMaybe() {
        Script s = new Script();
        s.set(0, 4);
        int maybe = s.maybe(4);
        s.set(0, 5);
        int bad = s.length(1, 5);
        int not = s.set(0, 6);
        int nor = s.length(1, 5);
        int behind = s.set(2, 7);
        Check.due("the MAYBE", s.on.reached(maybe), 1);
        Check.due("the one that must throw", s.on.reached(bad), 1);
        Check.due("the next of the MAYBE", s.on.reached(not), 0);
        Check.due("the last of the MAYBE", s.on.reached(nor), 0);
        Check.due("what it may throw", throwsOf(s, nor), 0);
        Check.due("the one behind the MAYBE", s.on.reached(behind), 1);
        Check.due("FACTS are those ahead", s.span(0), "4..4");
        Check.due("the end", s.span(2), "7..7");
        s.maybe(1);
        s.length(1, 5);
        Check.due("the MAYBE's last ACT must throw", s.on.ends(), 1);
        s.length(1, 5);
        s.maybe(1);
        int never = s.set(0, 1);
        int last = s.set(0, 1);
        Check.due("a MAYBE that is not REACHED", s.on.reached(never), 0);
        Check.due("nor what is behind it", s.on.reached(last), 0);
        Check.due("nor the end", s.on.ends(), 0);
    }
}
