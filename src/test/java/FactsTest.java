/** The rules of '2 FACTS', one after the other, with answers worked out by hand. */
public final class FactsTest {
    private static final int NULL = 1 << 1;
    private static final int CAST = 1 << 2;
    private static final int SIZE = 1 << 3;
    private static final int STORE = 1 << 4;
    private static final int INDEX = 1 << 5;
    private static final int ROOM = 1 << 7;

    private FactsTest() {
    }

    public static void main(String[] args) {
        sums();
        sumsBeyondInts();
        casts();
        news();
        clones();
        lengths();
        writesStrong();
        writesWeak();
        writesNarrow();
        reads();
        copyThrows();
        copyStrong();
        copyWeak();
        copyNarrows();
        fillThrows();
        fillStrongAndWeak();
        fillNarrowsNothing();
        eithers();
        maybes();
        maybeArrays();
        Check.finish();
    }

    private static void sums() {
        Script s = new Script();
        s.input(0, -3, 5);
        s.input(1, 10, 20);
        s.add(2, 0, 1);
        s.less(3, 0, 1);
        s.less(4, 0, 0);
        s.add(0, 0, 0);
        Check.due("ADD", s.span(2), "7..25");
        Check.due("LESS", s.span(3), "-23..-5");
        Check.due("LESS of itself", s.span(4), "-8..8");
        Check.due("ADD onto itself", s.span(0), "-6..10");
    }

    private static void sumsBeyondInts() {
        Script s = new Script();
        s.set(0, 1000000);
        for (int i = 0; i < 11; i++) {
            s.add(0, 0, 0);
        }
        Check.due("2048000000", s.span(0), "2048000000..2048000000");
        s.set(1, 483647);
        s.add(5, 0, 0);
        Check.due("an end beyond: all ints", s.span(5), "-2147483648..2147483647");
        s.less(5, 1, 0);
        Check.due("far below", s.span(5), "-2047516353..-2047516353");
        s.less(5, 5, 0);
        Check.due("beyond below: all ints", s.span(5), "-2147483648..2147483647");
        intEnds();
    }

    private static void intEnds() {
        Script s = new Script();
        s.set(0, 131072);
        for (int i = 0; i < 13; i++) {
            s.add(0, 0, 0);
        }
        Check.due("2 to the 30th", s.span(0), "1073741824..1073741824");
        s.set(1, 1);
        s.less(2, 0, 1);
        s.add(3, 0, 2);
        Check.due("the greatest int", s.span(3), "2147483647..2147483647");
        s.less(4, 4, 3);
        s.less(4, 4, 1);
        Check.due("the least int", s.span(4), "-2147483648..-2147483648");
        s.less(5, 4, 1);
        Check.due("below it", s.span(5), "-2147483648..2147483647");
        s.add(3, 3, 1);
        Check.due("above it", s.span(3), "-2147483648..2147483647");
        s.input(1, 0, 1);
        s.add(5, 4, 1);
        Check.due("least int and 0 .. 1", s.span(5), "-2147483648..-2147483647");
    }

    private static String castOf(int lane, int least, int greatest) {
        Script s = new Script();
        int site = s.makeOf(0, lane, 0, 1);
        s.set(0, 0);
        s.input(1, least, greatest);
        s.write(0, lane, 0, 1);
        return s.segments(site);
    }

    private static void casts() {
        Check.due("BYTE fits", castOf(0, -128, 127), "0..1:-128..127");
        Check.due("BYTE small", castOf(0, -5, 6), "0..1:-5..6");
        Check.due("BYTE up to its greatest", castOf(0, -5, 127), "0..1:-5..127");
        Check.due("BYTE from its least", castOf(0, -128, 6), "0..1:-128..6");
        Check.due("BYTE below", castOf(0, -129, 0), "0..1:-128..127");
        Check.due("BYTE above", castOf(0, 128, 128), "0..1:-128..127");
        Check.due("CHAR fits", castOf(1, 0, 65535), "0..1:0..65535");
        Check.due("CHAR small", castOf(1, 7, 9), "0..1:7..9");
        Check.due("CHAR up to its greatest", castOf(1, 7, 65535), "0..1:7..65535");
        Check.due("CHAR from its least", castOf(1, 0, 9), "0..1:0..9");
        Check.due("CHAR below", castOf(1, -1, 3), "0..1:0..65535");
        Check.due("CHAR above", castOf(1, 3, 65536), "0..1:0..65535");
        Check.due("INT", castOf(2, -1000000, 1000000), "0..1:-1000000..1000000");
    }

    private static void news() {
        Script s = new Script();
        s.input(0, 3, 12);
        int fine = s.make(0, Script.BYTE, 0);
        Check.due("NEW 3..12", s.on.throwsAt(fine), 0);
        s.input(1, -1, 12);
        int size = s.make(1, Script.BYTE, 1);
        Check.due("NEW -1..12", s.on.throwsAt(size), SIZE);
        Check.due("narrowed", s.span(1), "0..12");
        s.input(2, 3, 13);
        int room = s.make(2, Script.INT, 2);
        Check.due("NEW 3..13", s.on.throwsAt(room), ROOM);
        Check.due("narrowed", s.span(2), "3..12");
        Check.due("length", s.on.array(room, 1), 3);
        s.input(3, 13, 20);
        int never = s.make(3, Script.INT, 3);
        Check.due("NEW 13..20", s.on.throwsAt(never), ROOM);
        Check.due("nothing behind", s.on.ends(), 0);
        s.on.drop(never);
        s.input(3, -4, -1);
        int below = s.make(3, Script.INT, 3);
        Check.due("NEW -4..-1", s.on.throwsAt(below), SIZE);
        Check.due("nothing behind", s.on.ends(), 0);
    }

    private static void clones() {
        Script s = new Script();
        s.set(0, 2);
        s.set(1, 1);
        s.set(2, 9);
        int one = s.make(0, Script.BYTE, 0);
        s.write(0, Script.BYTE, 1, 2);
        s.set(0, 4);
        int two = s.make(1, Script.INT, 0);
        s.set(2, -3);
        s.write(1, Script.INT, 1, 2);
        s.either(2, 0, 1);
        s.either(2, 2, 5);
        int made = s.copyOf(3, 2);
        Check.due("CLONE of one that may be NULL", s.on.throwsAt(made), NULL);
        Check.due("not NULL behind", s.on.reference(2), 4);
        Check.due("LANES of both", s.on.array(made, 0), 5);
        Check.due("least length", s.on.array(made, 1), 2);
        Check.due("greatest length", s.on.array(made, 2), 4);
        Check.due("places of both", s.segments(made), "0..1:0..0 1..2:-3..9 2..4:0..0");
        Check.due("means the new one alone", s.on.reference(3), 2);
        Check.due("means it", s.on.means(3, made), 1);
        s.write(3, Script.INT, 1, 0);
        Check.due("the first is left", s.segments(one), "0..1:0..0 1..2:9..9");
        Check.due("the second is left", s.segments(two), "0..1:0..0 1..2:-3..-3 2..4:0..0");
        int own = s.copyOf(3, 3);
        Check.due("CLONE onto itself", s.on.means(3, own), 1);
        Check.due("with what was in it", s.segments(own), "0..1:0..0 1..2:4..4 2..4:0..0");
        int never = s.copyOf(4, 5);
        Check.due("CLONE of NULL", s.on.throwsAt(never), NULL);
        Check.due("nothing behind", s.on.ends(), 0);
    }

    private static void lengths() {
        Script s = new Script();
        s.input(0, 2, 4);
        s.make(0, Script.BYTE, 0);
        s.input(0, 6, 7);
        s.make(1, Script.INT, 0);
        s.either(2, 0, 1);
        int sure = s.length(3, 2);
        Check.due("LENGTH", s.on.throwsAt(sure), 0);
        Check.due("the JOIN", s.span(3), "2..7");
        s.either(2, 2, 5);
        int may = s.length(3, 2);
        Check.due("LENGTH of what may be NULL", s.on.throwsAt(may), NULL);
        Check.due("not NULL behind", s.on.reference(2), 4);
        Check.due("others may", s.on.reference(5), 1);
    }

    private static void writesStrong() {
        Script s = new Script();
        int site = s.makeOf(0, Script.INT, 0, 4);
        s.set(1, 2);
        s.set(2, 7);
        int write = s.write(0, Script.INT, 1, 2);
        Check.due("sure WRITE", s.on.throwsAt(write), 0);
        Check.due("strong", s.segments(site), "0..2:0..0 2..3:7..7 3..4:0..0");
        s.either(1, 0, 5);
        int maybe = s.write(1, Script.INT, 1, 0);
        Check.due("WRITE to one that may be NULL", s.on.throwsAt(maybe), NULL);
        Check.due("strong too", s.segments(site), "0..2:0..0 2..3:4..4 3..4:0..0");
        Check.due("not NULL behind", s.on.reference(1), 2);
        s.input(1, -5, 0);
        int index = s.write(0, Script.INT, 1, 2);
        Check.due("WRITE at -5..0", s.on.throwsAt(index), INDEX);
        Check.due("narrowed to 0, strong", s.segments(site), "0..1:7..7 1..2:0..0 2..3:4..4 3..4:0..0");
        Check.due("the place", s.span(1), "0..0");
    }

    private static void writesWeak() {
        Script s = new Script();
        s.input(0, 2, 3);
        int one = s.make(0, Script.BYTE, 0);
        s.set(0, 6);
        int two = s.make(1, Script.BYTE, 0);
        s.either(2, 0, 1);
        s.set(1, 1);
        s.set(2, 300);
        s.write(2, Script.BYTE, 1, 2);
        Check.due("two SITES, one place: first", s.segments(one), "0..1:0..0 1..2:-128..127 2..3:0..0");
        Check.due("two SITES, one place: second", s.segments(two), "0..1:0..0 1..2:-128..127 2..6:0..0");
        s.input(1, 2, 4);
        s.set(2, 5);
        int write = s.write(2, Script.BYTE, 1, 2);
        Check.due("4 is not below 2", s.on.throwsAt(write), INDEX);
        Check.due("up to its length", s.segments(one), "0..1:0..0 1..2:-128..127 2..3:0..5");
        Check.due("all of the SPAN", s.segments(two), "0..1:0..0 1..2:-128..127 2..5:0..5 5..6:0..0");
        Check.due("the SPAN is left", s.span(1), "2..4");
    }

    private static void writesNarrow() {
        Script s = new Script();
        s.set(0, 3);
        int one = s.make(0, Script.BYTE, 0);
        s.set(0, 5);
        int two = s.make(1, Script.INT, 0);
        s.either(2, 0, 1);
        s.either(2, 2, 5);
        s.input(1, -2, 9);
        int write = s.write(2, Script.BYTE, 1, 1);
        Check.due("all three", s.on.throwsAt(write), NULL | CAST | INDEX);
        Check.due("means the BYTE one", s.on.reference(2), 2);
        Check.due("that", s.on.means(2, one), 1);
        Check.due("below its length", s.span(1), "0..2");
        Check.due("the number is narrowed, too", s.segments(one), "0..3:0..2");
        Check.due("the other is left", s.segments(two), "0..5:0..0");
        int cast = s.write(1, Script.CHAR, 1, 1);
        Check.due("another LANE", s.on.throwsAt(cast), CAST);
        Check.due("nothing behind", s.on.ends(), 0);
        s.on.drop(cast);
        s.set(1, 3);
        int index = s.write(0, Script.BYTE, 1, 1);
        Check.due("no such place", s.on.throwsAt(index), INDEX);
        Check.due("nothing behind", s.on.ends(), 0);
        s.on.drop(index);
        s.input(1, -3, -1);
        int below = s.write(4, Script.BYTE, 1, 1);
        Check.due("NULL, and by itself INDEX", s.on.throwsAt(below), NULL | INDEX);
        s.on.drop(below);
        s.set(0, 0);
        s.make(3, Script.INT, 0);
        int empty = s.read(0, 3, Script.INT, 0);
        Check.due("no places at all", s.on.throwsAt(empty), INDEX);
        Check.due("nothing behind", s.on.ends(), 0);
    }

    private static void reads() {
        Script s = new Script();
        s.set(0, 3);
        int one = s.make(0, Script.INT, 0);
        s.set(1, 2);
        s.set(2, 70);
        s.write(0, Script.INT, 1, 2);
        s.set(0, 6);
        s.make(1, Script.INT, 0);
        s.set(1, 4);
        s.set(2, -9);
        s.write(1, Script.INT, 1, 2);
        s.set(1, 2);
        int read = s.read(3, 0, Script.INT, 1);
        Check.due("sure READ", s.on.throwsAt(read), 0);
        Check.due("one place", s.span(3), "70..70");
        s.either(2, 0, 1);
        s.input(1, 1, 3);
        int two = s.read(3, 2, Script.INT, 1);
        Check.due("READ beyond the short one", s.on.throwsAt(two), INDEX);
        Check.due("all places of both", s.span(3), "0..70");
        s.input(1, 3, 9);
        s.read(3, 2, Script.INT, 1);
        Check.due("the long one alone", s.span(3), "-9..0");
        Check.due("the place is narrowed", s.span(1), "3..5");
        Check.due("means both still", s.on.reference(2), 4);
        s.set(1, 2);
        s.read(1, 0, Script.INT, 1);
        Check.due("x and y the same", s.span(1), "70..70");
        Check.due("READ leaves the array", s.segments(one), "0..2:0..0 2..3:70..70");
    }

    private static void copyThrows() {
        Script s = new Script();
        s.set(0, 5);
        s.make(0, Script.INT, 0);
        s.make(1, Script.INT, 0);
        s.make(2, Script.BYTE, 0);
        s.set(1, 2);
        s.set(2, 3);
        s.set(3, 4);
        s.either(3, 0, 2);
        s.either(4, 0, 5);
        Check.due("2 and 3 of 5", s.on.throwsAt(s.copy(0, 1, 1, 1, 2)), 0);
        Check.due("other LANES", s.on.throwsAt(s.copy(0, 1, 2, 1, 2)), STORE);
        Check.due("perhaps other LANES", s.on.throwsAt(s.copy(3, 1, 1, 1, 2)), STORE);
        Check.due("to that one", s.on.throwsAt(s.copy(1, 1, 3, 1, 2)), STORE);
        Check.due("r too short", s.on.throwsAt(s.copy(0, 2, 1, 1, 2)), INDEX);
        Check.due("s too short", s.on.throwsAt(s.copy(0, 1, 1, 2, 2)), INDEX);
        Check.due("r may be NULL", s.on.throwsAt(s.copy(4, 1, 1, 1, 2)), NULL);
        Check.due("not so behind", s.on.reference(4), 2);
        s.either(4, 0, 5);
        Check.due("s may be NULL", s.on.throwsAt(s.copy(1, 1, 4, 1, 2)), NULL);
        s.copyOf(4, 3);
        Check.due("one SITE of two LANES", s.on.throwsAt(s.copy(4, 1, 4, 1, 2)), STORE);
        s.input(1, -1, 2);
        Check.due("x below 0", s.on.throwsAt(s.copy(0, 1, 1, 2, 1)), INDEX);
        Check.due("NULL always, no LANES", s.on.throwsAt(s.copy(5, 2, 2, 2, 2)), NULL | INDEX);
        Check.due("nothing behind", s.on.ends(), 0);
    }

    private static int numbered(Script s, int r, int many) {
        int site = s.makeOf(r, Script.INT, 0, many);
        for (int p = 0; p < many; p++) {
            s.set(0, p);
            s.set(1, p + 10 * (r + 1));
            s.write(r, Script.INT, 0, 1);
        }
        return site;
    }

    private static void copyStrong() {
        Script s = new Script();
        int one = numbered(s, 0, 5);
        s.set(2, 0);
        s.set(3, 1);
        s.set(4, 3);
        int up = s.copy(0, 2, 0, 3, 4);
        Check.due("over itself, upwards", s.segments(one), "0..2:10..10 2..3:11..11 3..4:12..12 4..5:14..14");
        s.on.drop(up);
        int down = s.copy(0, 3, 0, 2, 4);
        Check.due("over itself, downwards", s.segments(one), "0..1:11..11 1..2:12..12 2..4:13..13 4..5:14..14");
        s.on.drop(down);
        int two = s.makeOf(1, Script.INT, 0, 4);
        s.copy(0, 4, 1, 3, 3);
        Check.due("to another", s.segments(two), "0..1:0..0 1..2:13..13 2..4:0..0");
        int three = s.makeOf(2, Script.INT, 0, 12);
        s.set(3, 2);
        s.set(4, 9);
        int all = s.copy(0, 2, 2, 3, 4);
        Check.due("more than r has", s.on.throwsAt(all), INDEX);
        Check.due("greatest lengths are not looked at", s.segments(three),
            "0..2:0..0 2..3:10..10 3..4:11..11 4..5:12..12 5..6:13..13 6..7:14..14 7..12:0..0");
    }

    private static void copyWeak() {
        Script s = new Script();
        int one = numbered(s, 0, 5);
        int two = s.makeOf(1, Script.INT, 0, 7);
        s.set(2, 1);
        s.input(3, 2, 3);
        s.set(4, 2);
        int copy = s.copy(0, 2, 1, 3, 4);
        Check.due("y is 2..3", s.on.throwsAt(copy), 0);
        Check.due("places 2..5 get 1..3 of r", s.segments(two), "0..2:0..0 2..5:0..12 5..7:0..0");
        s.input(4, -3, 0);
        int none = s.copy(0, 2, 0, 3, 4);
        Check.due("z below 0", s.on.throwsAt(none), INDEX);
        Check.due("z is 0 then", s.span(4), "0..0");
        Check.due("nothing is copied", s.segments(one), "0..1:10..10 1..2:11..11 2..3:12..12 3..4:13..13 4..5:14..14");
        s.set(2, 5);
        s.input(4, 0, 2);
        s.copy(0, 2, 1, 3, 4);
        Check.due("no places of r there", s.segments(two), "0..2:0..0 2..5:0..12 5..7:0..0");
        s.set(2, 0);
        s.set(3, 0);
        s.set(4, 1);
        s.either(2, 0, 1);
        s.copy(0, 2, 2, 3, 4);
        Check.due("two SITES: one", s.segments(one), "0..1:10..10 1..2:11..11 2..3:12..12 3..4:13..13 4..5:14..14");
        Check.due("two SITES: other", s.segments(two), "0..1:0..10 1..2:0..0 2..5:0..12 5..7:0..0");
    }

    private static void copyNarrows() {
        Script s = new Script();
        s.makeOf(0, Script.INT, 0, 5);
        s.makeOf(1, Script.INT, 0, 5);
        s.input(1, -4, 90);
        s.input(2, -5, 80);
        s.input(3, -6, 70);
        s.copy(0, 1, 1, 2, 3);
        Check.due("x", s.span(1), "0..90");
        Check.due("y", s.span(2), "0..80");
        Check.due("z", s.span(3), "0..70");
        s.input(3, -6, -1);
        s.copy(0, 1, 1, 2, 3);
        Check.due("nothing is left of z", s.on.ends(), 0);
    }

    private static void fillThrows() {
        Script s = new Script();
        s.input(0, 3, 5);
        s.make(0, Script.INT, 0);
        s.make(1, Script.BYTE, 0);
        s.either(2, 0, 1);
        s.either(2, 2, 5);
        s.set(1, 0);
        s.set(2, 3);
        s.set(3, 4);
        s.set(4, -1);
        Check.due("0 to 3 of 3..5", s.on.throwsAt(s.fill(0, Script.INT, 1, 2, 2)), 0);
        Check.due("0 to 4", s.on.throwsAt(s.fill(0, Script.INT, 1, 3, 2)), INDEX);
        Check.due("-1 to 3", s.on.throwsAt(s.fill(0, Script.INT, 4, 2, 2)), INDEX);
        Check.due("no WRITE", s.on.throwsAt(s.fill(0, Script.INT, 3, 3, 2)), 0);
        Check.due("no WRITE, though below 0", s.on.throwsAt(s.fill(0, Script.INT, 4, 4, 2)), 0);
        Check.due("no WRITE, though NULL", s.on.throwsAt(s.fill(5, Script.INT, 2, 1, 2)), 0);
        Check.due("no WRITE, though of another LANE", s.on.throwsAt(s.fill(0, Script.CHAR, 2, 2, 2)), 0);
        Check.due("NULL, CAST", s.on.throwsAt(s.fill(2, Script.INT, 1, 2, 2)), NULL | CAST);
        Check.due("NULL always", s.on.throwsAt(s.fill(5, Script.INT, 1, 3, 2)), NULL);
        Check.due("goes on all the same", s.on.ends(), 1);
    }

    private static void fillStrongAndWeak() {
        Script s = new Script();
        s.input(0, 6, 8);
        int one = s.make(0, Script.INT, 0);
        s.input(1, 1, 2);
        s.input(2, 4, 7);
        s.set(3, 9);
        s.fill(0, Script.INT, 1, 2, 3);
        Check.due("sure in the middle", s.segments(one), "0..1:0..0 1..2:0..9 2..4:9..9 4..7:0..9 7..8:0..0");
        int two = s.makeOf(1, Script.BYTE, 4, 3);
        s.either(2, 0, 1);
        s.set(1, -4);
        s.set(2, 90);
        s.set(3, 200);
        s.fill(2, Script.BYTE, 1, 2, 3);
        Check.due("two SITES: joined, of the LANE", s.segments(two), "0..3:-128..127");
        Check.due("not of the LANE", s.segments(one), "0..1:0..0 1..2:0..9 2..4:9..9 4..7:0..9 7..8:0..0");
        s.fill(1, Script.BYTE, 1, 2, 1);
        Check.due("one SITE: all are that", s.segments(two), "0..3:-4..-4");
        s.fill(1, Script.INT, 1, 2, 3);
        Check.due("one SITE of another LANE", s.segments(two), "0..3:-4..-4");
        s.either(3, 1, 5);
        s.set(1, 1);
        s.fill(3, Script.BYTE, 1, 2, 1);
        Check.due("NULL is no SITE", s.segments(two), "0..1:-4..-4 1..3:1..1");
        s.set(1, 7);
        s.set(2, 2);
        s.fill(1, Script.BYTE, 1, 2, 1);
        Check.due("from 7 to 2", s.segments(two), "0..1:-4..-4 1..3:1..1");
    }

    private static void fillNarrowsNothing() {
        Script s = new Script();
        s.makeOf(0, Script.INT, 0, 4);
        s.makeOf(1, Script.BYTE, 0, 4);
        s.either(2, 0, 1);
        s.either(2, 2, 5);
        s.input(1, -3, 2);
        s.input(2, 3, 40);
        s.fill(2, Script.INT, 1, 2, 2);
        Check.due("r", s.on.reference(2), 5);
        Check.due("x", s.span(1), "-3..2");
        Check.due("y", s.span(2), "3..40");
    }

    private static void eithers() {
        Script s = new Script();
        int one = s.makeOf(0, Script.INT, 0, 4);
        s.either(0, 0, 1);
        Check.due("itself or NULL", s.on.reference(0), 3);
        s.same(2, 0);
        Check.due("SAME", s.on.reference(2), 3);
        Check.due("SAME means it", s.on.means(2, one), 1);
        s.none(0);
        Check.due("NONE", s.on.reference(0), 1);
        s.either(3, 2, 2);
        Check.due("twice the same", s.on.reference(3), 3);
        s.length(1, 3);
        Check.due("not NULL", s.on.reference(3), 2);
        Check.due("the other may be still", s.on.reference(2), 3);
    }

    private static void maybes() {
        Script s = new Script();
        s.set(0, 5);
        s.maybe(3);
        s.set(0, 9);
        int inner = s.maybe(1);
        s.set(1, 4);
        s.set(2, 6);
        Check.due("JOIN", s.span(0), "5..9");
        Check.due("of the outer one", s.span(1), "0..4");
        Check.due("the inner one does nothing", s.span(2), "6..6");
        Check.due("it is REACHED", s.on.reached(inner), 1);
        s.maybe(1);
        s.maybe(1);
        s.set(3, 1);
        Check.due("a MAYBE of a MAYBE", s.span(3), "1..1");
        s.maybe(1);
        s.set(4, 1);
        s.maybe(10);
        s.set(5, 1);
        Check.due("one behind another", s.span(4), "0..1");
        Check.due("up to the end", s.span(5), "0..1");
    }

    private static void maybeArrays() {
        Script s = new Script();
        int one = s.makeOf(0, Script.INT, 0, 3);
        s.maybe(4);
        s.set(1, 2);
        s.write(0, Script.INT, 1, 0);
        int two = s.make(1, Script.BYTE, 1);
        s.write(1, Script.BYTE, 2, 0);
        Check.due("JOINED places", s.segments(one), "0..2:0..0 2..3:0..3");
        Check.due("an ARRAY that there was not yet", s.segments(two), "0..1:3..3 1..2:0..0");
        Check.due("SITE or NULL", s.on.reference(1), 3);
        s.maybe(3);
        int three = s.copyOf(2, 0);
        s.length(3, 5);
        s.none(0);
        Check.due("its way ends", s.on.array(three, 0), -1);
        Check.due("only what was ahead", s.on.reference(0), 2);
        Check.due("SITES at the end", s.on.told(4), 2);
    }
}
