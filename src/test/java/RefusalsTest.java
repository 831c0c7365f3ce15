/**
 * Each RANGE, STATE, FULL and NONE of the promises, and each 0 that is told instead of one: every number
 * of every call just outside what it may be, in each state of the object, and that a refusal changes nothing.
 */
public final class RefusalsTest {
    private static final int NONE = -1;
    private static final int RANGE = -2;
    private static final int STATE = -3;
    private static final int FULL = -4;
    /** In the place of a limit: as many as there are ACTS. */
    private static final int ACTS = -1;

    private interface Call {
        int on(ArraySegments x, int... n);
    }

    private record Row(String name, Call call, int refusal, int... limits) {
    }

    private static final Row[] ROWS = {
        new Row("drop", (x, n) -> x.drop(n[0]), RANGE, ACTS),
        new Row("reached", (x, n) -> x.reached(n[0]), RANGE, ACTS),
        new Row("throwsAt", (x, n) -> x.throwsAt(n[0]), RANGE, ACTS),
        new Row("variable", (x, n) -> x.variable(n[0], n[1]), RANGE, 6, 2),
        new Row("reference", (x, n) -> x.reference(n[0]), RANGE, 6),
        new Row("means", (x, n) -> x.means(n[0], n[1]), RANGE, 6, ACTS),
        new Row("array", (x, n) -> x.array(n[0], n[1]), RANGE, ACTS, 5),
        new Row("segment", (x, n) -> x.segment(n[0], 0, n[1]), RANGE, ACTS, 4),
        new Row("value", (x, n) -> x.value(n[0]), 0, 6),
        new Row("place", (x, n) -> x.place(n[0], 0), 0, 6),
        new Row("length", (x, n) -> x.length(n[0]), RANGE, 6),
        new Row("same", (x, n) -> x.same(n[0], n[1]), RANGE, 6, 6),
        new Row("told", (x, n) -> x.told(n[0]), RANGE, 5)};

    private RefusalsTest() {
    }

    public static void main(String[] args) {
        rangeInEachState();
        rangeOfNoActs();
        rangeOfSegments();
        rangeBehindClear();
        stateWithoutTheEnd();
        noStateInOthers();
        stateWithoutRun();
        fullOfEachKind();
        noneOfArrays();
        noneOfWhere();
        noneOfLength();
        zeroOfValue();
        zeroOfPlace();
        zeroOfDrop();
        zeroOfTold();
        statusOfVariable();
        statusOfSegment();
        Check.finish();
    }

    /** Two arrays and numbers that are not 0, so that a forgotten test would show; the end is REACHED. */
    private static Script program() {
        Script s = new Script();
        for (int x = 0; x < 6; x++) {
            s.set(x, x + 3);
        }
        for (int r = 0; r < 6; r++) {
            s.make(r, Script.INT, 0);
            s.fill(r, Script.INT, 5, 4, 1);
            s.write(r, Script.INT, 5, 1);
            s.on.drop(s.on.told(0) - 1);
        }
        return s;
    }

    private static Script endless() {
        Script s = program();
        s.none(0);
        s.length(0, 0);
        return s;
    }

    private static String allOf(ArraySegments x) {
        StringBuilder text = new StringBuilder();
        for (int what = 0; what < 5; what++) {
            text.append(x.told(what)).append(' ');
        }
        text.append(x.ends()).append(x.where()).append(x.same(0, 1)).append(x.status());
        for (int k = 0; k < 6; k++) {
            text.append(' ').append(x.reference(k)).append(' ').append(x.value(k)).append(' ').append(x.length(k));
            text.append(' ').append(x.place(k, 0));
        }
        for (int i = 0; i < x.told(0); i++) {
            text.append(' ').append(x.reached(i)).append(' ').append(x.throwsAt(i)).append(' ').append(x.array(i, 2));
        }
        return text.toString();
    }

    private static void rangeOf(String state, ArraySegments x, Row row) {
        for (int k = 0; k < row.limits().length; k++) {
            int limit = row.limits()[k] == ACTS ? x.told(0) : row.limits()[k];
            for (int wrong : new int[] {-1, limit, Integer.MIN_VALUE, Integer.MAX_VALUE}) {
                int[] n = new int[row.limits().length];
                n[k] = wrong;
                String what = state + ": " + row.name() + " with " + wrong + " as number " + k;
                Check.due(what, row.call().on(x, n), row.refusal());
            }
        }
    }

    /** "RANGE -2 (a number is not as told)", ahead of STATE and of NONE. */
    private static void rangeInEachState() {
        for (Row row : ROWS) {
            Script[] all = {program(), endless(), program(), endless()};
            all[2].on.run(1L);
            all[3].on.run(1L);
            String[] names = {"the end is REACHED", "the end is not REACHED", "behind a RUN", "behind a THROW"};
            for (int k = 0; k < all.length; k++) {
                all[k].on.variable(6, 0);
                String before = allOf(all[k].on);
                rangeOf(names[k], all[k].on, row);
                Check.due(names[k] + ": nothing is changed by " + row.name(), allOf(all[k].on), before);
            }
        }
    }

    /** "No ACTS": each number of one is refused. */
    private static void rangeOfNoActs() {
        for (Row row : ROWS) {
            rangeOf("no ACTS", new ArraySegments(), row);
        }
        ArraySegments x = new ArraySegments();
        Check.due("drop(0)", x.drop(0), RANGE);
        Check.due("reached(0)", x.reached(0), RANGE);
        Check.due("throwsAt(0)", x.throwsAt(0), RANGE);
        Check.due("means(0, 0)", x.means(0, 0), RANGE);
        Check.due("array(0, 0)", x.array(0, 0), RANGE);
        Check.due("segment(0, 0, 0)", x.segment(0, 0, 0), RANGE);
        Check.due("clear()", x.clear(), 0);
    }

    /** "RANGE (also no such SEGMENT)" */
    private static void rangeOfSegments() {
        Script s = new Script();
        int site = s.makeOf(0, Script.INT, 0, 3);
        s.put(0, Script.INT, 1, 4);
        for (int what = 0; what < 4; what++) {
            Check.isTrue("the last SEGMENT", s.on.segment(site, 2, what) != RANGE);
            Check.due("its status", s.on.status(), 0);
            for (int k : new int[] {-1, 3, 11, 12, Integer.MIN_VALUE, Integer.MAX_VALUE}) {
                Check.due("SEGMENT " + k, s.on.segment(site, k, what), RANGE);
                Check.due("its status", s.on.status(), RANGE);
            }
        }
        int empty = s.makeOf(1, Script.INT, 0, 0);
        Check.due("no SEGMENT of no places", s.on.segment(empty, 0, 0), RANGE);
        int twelve = s.makeOf(1, Script.INT, 0, 12);
        Check.due("one SEGMENT of twelve", s.on.segment(twelve, 0, 1), 12);
        Check.due("no other", s.on.segment(twelve, 1, 0), RANGE);
        s.input(0, 0, 2);
        int two = s.make(2, Script.INT, 0);
        Check.due("two at most", s.on.segment(two, 0, 1), 2);
    }

    /** ACTS that were there are there no more. */
    private static void rangeBehindClear() {
        Script s = program();
        int many = s.on.told(0);
        Check.due("all go", s.on.clear(), many);
        for (int i = 0; i < many; i++) {
            Check.due("reached " + i, s.on.reached(i), RANGE);
            Check.due("means " + i, s.on.means(0, i), RANGE);
            Check.due("array " + i, s.on.array(i, 0), RANGE);
            Check.due("segment " + i, s.on.segment(i, 0, 0), RANGE);
            Check.due("drop " + i, s.on.drop(i), RANGE);
        }
        Check.due("none is left", s.on.told(0), 0);
        Check.due("no dropped one either", s.on.told(1), 0);
    }

    /** "STATE: the end is not REACHED" */
    private static void stateWithoutTheEnd() {
        Script s = endless();
        int many = s.on.told(0);
        for (int k = 0; k < 6; k++) {
            Check.due("variable, least " + k, s.on.variable(k, 0), STATE);
            Check.due("variable, greatest " + k, s.on.variable(k, 1), STATE);
            Check.due("reference " + k, s.on.reference(k), STATE);
            Check.due("means, first " + k, s.on.means(k, 0), STATE);
            Check.due("means, last " + k, s.on.means(k, many - 1), STATE);
        }
        for (int i = 0; i < many; i++) {
            for (int what = 0; what < 5; what++) {
                Check.due("array " + i, s.on.array(i, what), STATE);
            }
            for (int what = 0; what < 4; what++) {
                Check.due("segment " + i, s.on.segment(i, 0, what), STATE);
            }
            Check.due("a SEGMENT that no array has " + i, s.on.segment(i, 12, 0), STATE);
            Check.due("a SEGMENT that none can have " + i, s.on.segment(i, -1, 0), RANGE);
        }
        s.on.drop(many - 1);
        Check.due("dropped: variable", s.on.variable(5, 1), 8);
        Check.due("dropped: reference", s.on.reference(1), 2);
        Check.due("dropped: array", s.on.array(6, 2), 3);
    }

    /** These have answers where the end is not REACHED. */
    private static void noStateInOthers() {
        Script s = endless();
        int many = s.on.told(0);
        Check.due("ends", s.on.ends(), 0);
        Check.due("reached", s.on.reached(many - 1), 1);
        Check.due("throwsAt", s.on.throwsAt(many - 1), 2);
        Check.due("told 0", s.on.told(0), many);
        Check.due("told 1", s.on.told(1), many - 6);
        Check.due("told 2", s.on.told(2), many - 6);
        Check.due("told 3", s.on.told(3), 1);
        Check.due("run", s.on.run(1L), 1);
        Check.due("where", s.on.where(), many - 1);
        Check.due("value", s.on.value(5), 8);
        Check.due("length", s.on.length(1), 3);
        Check.due("same", s.on.same(1, 2), 0);
        Check.due("holds", s.on.holds(1L), 1);
    }

    /** "STATE: no RUN" */
    private static void stateWithoutRun() {
        Script s = program();
        Check.due("at first", s.on.same(0, 0), STATE);
        Check.due("new object", new ArraySegments().same(5, 0), STATE);
        s.on.run(1L);
        Check.due("behind run", s.on.same(0, 0), 1);
        s.set(0, 1);
        Check.due("behind act", s.on.same(0, 0), STATE);
        s.on.holds(1L);
        Check.due("behind holds", s.on.same(0, 5), 0);
        s.on.drop(0);
        Check.due("behind drop", s.on.same(0, 0), STATE);
        s.on.run(1L);
        s.on.clear();
        Check.due("behind clear", s.on.same(0, 0), STATE);
        s.on.run(1L);
        Check.due("a RUN of no ACTS", s.on.same(0, 5), 1);
    }

    /** "FULL", behind RANGE, for each kind. */
    private static void fullOfEachKind() {
        ArraySegments x = new ArraySegments();
        for (int i = 0; i < 40; i++) {
            Check.due("the ACT's number", x.act(14, 0, 10, 0, 0, 0), i);
        }
        x.run(1L);
        for (int kind = 0; kind < 15; kind++) {
            Check.due("one more of kind " + kind, x.act(kind, 0, 1, 2, 0, 0), FULL);
            int wrong = kind == 14 ? x.act(kind, 0, 11, 0, 0, 0) : x.act(kind, 6, 1, 2, 0, 0);
            Check.due("a wrong one of kind " + kind, wrong, RANGE);
        }
        Check.due("kind 15", x.act(15, 0, 0, 0, 0, 0), RANGE);
        Check.due("kind -1", x.act(-1, 0, 0, 0, 0, 0), RANGE);
        Check.due("none is there", x.told(0), 40);
        Check.due("the RUN is left", x.same(0, 0), 1);
    }

    /** "NONE: it has no FACTS" */
    private static void noneOfArrays() {
        Script s = new Script();
        int set = s.set(0, 13);
        int maybe = s.maybe(2);
        int room = s.make(0, Script.INT, 0);
        int behind = s.copyOf(1, 0);
        int fine = s.makeOf(2, Script.INT, 0, 1);
        int dropped = s.make(3, Script.INT, 0);
        s.on.drop(dropped);
        for (int i : new int[] {set, maybe, room, behind, dropped}) {
            for (int what = 0; what < 5; what++) {
                Check.due("array " + i, s.on.array(i, what), NONE);
            }
            for (int what = 0; what < 4; what++) {
                Check.due("segment " + i, s.on.segment(i, 0, what), NONE);
                Check.due("status", s.on.status(), NONE);
                Check.due("a SEGMENT far off " + i, s.on.segment(i, 12, what), NONE);
                Check.due("a SEGMENT that none can have " + i, s.on.segment(i, -1, what), RANGE);
            }
            Check.due("means " + i, s.on.means(0, i), 0);
        }
        Check.due("this one has", s.on.array(fine, 0), 4);
    }

    /** "At which ACT the latest RUN threw; NONE." */
    private static void noneOfWhere() {
        Script s = new Script();
        Check.due("no RUN", s.on.where(), NONE);
        int first = s.length(0, 0);
        Check.due("no RUN yet", s.on.where(), NONE);
        s.on.run(1L);
        Check.due("at ACT 0", s.on.where(), first);
        s.on.drop(first);
        Check.due("no RUN since drop", s.on.where(), NONE);
        s.on.run(1L);
        Check.due("at the end", s.on.where(), NONE);
        int second = s.length(0, 0);
        s.on.holds(1L);
        Check.due("the latest RUN is that of holds", s.on.where(), second);
        s.on.clear();
        s.on.run(1L);
        Check.due("a RUN of no ACTS", s.on.where(), NONE);
        Script last = new Script();
        for (int i = 0; i < 39; i++) {
            last.set(0, i);
        }
        last.length(0, 0);
        last.on.run(1L);
        Check.due("at ACT 39", last.on.where(), 39);
    }

    /** "NONE: NULL, or no RUN." */
    private static void noneOfLength() {
        Script s = new Script();
        s.makeOf(0, Script.INT, 0, 0);
        Check.due("no RUN", s.on.length(0), NONE);
        s.on.run(1L);
        Check.due("no places", s.on.length(0), 0);
        Check.due("NULL", s.on.length(1), NONE);
        s.none(0);
        Check.due("no RUN since act", s.on.length(0), NONE);
        s.on.run(1L);
        Check.due("NULL again", s.on.length(0), NONE);
        s.on.drop(2);
        s.on.run(1L);
        Check.due("dropped", s.on.length(0), 0);
        s.on.clear();
        Check.due("no RUN since clear", s.on.length(0), NONE);
    }

    /** "(0 without any since the PROGRAM was changed). RANGE: 0, too." */
    private static void zeroOfValue() {
        Script s = new Script();
        s.set(5, 8);
        Check.due("no RUN", s.on.value(5), 0);
        s.on.run(1L);
        Check.due("behind it", s.on.value(5), 8);
        s.set(5, 9);
        Check.due("changed by act", s.on.value(5), 0);
        s.on.run(1L);
        Check.due("behind it", s.on.value(5), 9);
        s.on.drop(1);
        Check.due("changed by drop", s.on.value(5), 0);
        s.on.holds(1L);
        Check.due("behind holds", s.on.value(5), 8);
        s.on.act(0, 5, 1000001, 0, 0, 0);
        s.on.drop(1);
        s.on.drop(9);
        Check.due("not changed by what was refused", s.on.value(5), 8);
        s.on.clear();
        Check.due("changed by clear", s.on.value(5), 0);
    }

    /** "0: NULL, none such (or no RUN)" */
    private static void zeroOfPlace() {
        Script s = new Script();
        s.makeOf(5, Script.INT, 0, 12);
        s.set(1, 7);
        s.fill(5, Script.INT, 2, 0, 1);
        s.makeOf(4, Script.INT, 0, 2);
        s.fill(4, Script.INT, 2, 0, 1);
        Check.due("no RUN", s.on.place(5, 11), 0);
        s.on.run(1L);
        Check.due("the last place", s.on.place(5, 11), 7);
        Check.due("the first place", s.on.place(5, 0), 7);
        Check.due("the last of two", s.on.place(4, 1), 7);
        for (int i : new int[] {-1, 12, 13, Integer.MIN_VALUE, Integer.MAX_VALUE}) {
            Check.due("none such: " + i, s.on.place(5, i), 0);
        }
        Check.due("none such of two", s.on.place(4, 2), 0);
        Check.due("none such of two, though ACT 12 is near", s.on.place(4, -12), 0);
        Check.due("NULL", s.on.place(0, 0), 0);
        s.none(0);
        Check.due("no RUN since act", s.on.place(5, 11), 0);
        s.on.holds(1L);
        Check.due("behind holds", s.on.place(5, 11), 7);
        s.on.drop(0);
        Check.due("no RUN since drop", s.on.place(5, 11), 0);
    }

    /** "1; 0: it was so already." */
    private static void zeroOfDrop() {
        Script s = new Script();
        s.set(0, 5);
        s.on.drop(0);
        s.on.run(1L);
        Check.due("so already", s.on.drop(0), 0);
        Check.due("and again", s.on.drop(0), 0);
        Check.due("that changes nothing: the RUN is left", s.on.same(0, 0), 1);
        Check.due("numbers are kept", s.set(1, 6), 1);
        Check.due("dropped still", s.on.variable(0, 1), 0);
        s.on.clear();
        s.set(0, 5);
        Check.due("a new ACT 0 is not so", s.on.drop(0), 1);
    }

    /** "SITES with FACTS at the end (0: not REACHED)" */
    private static void zeroOfTold() {
        Script s = program();
        Check.due("six SITES", s.on.told(4), 6);
        int bad = s.read(0, 0, Script.BYTE, 0);
        Check.due("the end is not REACHED", s.on.told(4), 0);
        s.on.drop(bad);
        Check.due("six again", s.on.told(4), 6);
    }

    /** "(-2, -3 may be numbers, too: status() tells.)" */
    private static void statusOfVariable() {
        Script s = new Script();
        Check.due("no call yet", s.on.status(), 0);
        for (int number : new int[] {NONE, RANGE, STATE, FULL}) {
            s.set(0, number);
            for (int side = 0; side < 2; side++) {
                s.on.variable(6, 0);
                Check.due("a number", s.on.variable(0, side), number);
                Check.due("0 behind it", s.on.status(), 0);
                Check.due("a wrong x", s.on.variable(-1, side), RANGE);
                Check.due("what it answered", s.on.status(), RANGE);
                Check.due("a number again", s.on.variable(1, side), 0);
                Check.due("0 behind it again", s.on.status(), 0);
            }
            Check.due("a wrong side", s.on.variable(0, 2), RANGE);
            Check.due("what it answered", s.on.status(), RANGE);
        }
        s.length(0, 0);
        Check.due("the end is not REACHED", s.on.variable(0, 0), STATE);
        Check.due("what it answered", s.on.status(), STATE);
    }

    /** "0 behind a call of variable(), segment() that told a number, else what it answered." */
    private static void statusOfSegment() {
        for (int number : new int[] {NONE, RANGE, STATE, FULL}) {
            Script s = new Script();
            int site = s.makeOf(0, Script.INT, 0, 1);
            s.put(0, Script.INT, 0, number);
            for (int what = 0; what < 4; what++) {
                int due = what < 2 ? what : number;
                Check.due("a number", s.on.segment(site, 0, what), due);
                Check.due("0 behind it", s.on.status(), 0);
                Check.due("no such SEGMENT", s.on.segment(site, 1, what), RANGE);
                Check.due("what it answered", s.on.status(), RANGE);
            }
            Check.due("no FACTS", s.on.segment(0, 0, 0), NONE);
            Check.due("what it answered", s.on.status(), NONE);
            Check.due("a number again", s.on.segment(site, 0, 0), 0);
            s.on.array(9, 9);
            s.on.reference(9);
            s.on.act(9, 9, 9, 9, 9, 9);
            Check.due("other calls leave it", s.on.status(), 0);
            s.on.segment(site, 0, 4);
            Check.due("a wrong what", s.on.status(), RANGE);
            s.length(0, 5);
            s.on.segment(site, 0, 3);
            Check.due("the end is not REACHED", s.on.status(), STATE);
        }
    }
}
