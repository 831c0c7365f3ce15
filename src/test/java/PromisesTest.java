/** Promises 1 to 21, one method each: ordinary calls, the edges that the document names, wrong inputs. */
public final class PromisesTest {
    private static final int NONE = -1;
    private static final int RANGE = -2;
    private static final int STATE = -3;
    private static final int FULL = -4;
    private static final int[] WRONG = {-1, 6, Integer.MIN_VALUE, Integer.MAX_VALUE};

    private PromisesTest() {
    }

    public static void main(String[] args) {
        promise1();
        promise2();
        promise3Numbers();
        promise3Ranges();
        promise3Unlooked();
        promise3Full();
        promise4();
        promise5();
        promise6();
        promise7();
        promise8();
        promise9();
        promise10();
        promise11();
        promise12();
        promise13();
        promise14();
        promise15();
        promise16();
        promise17();
        promise18();
        promise19();
        promise20();
        promise21();
        forgetting();
        siteZero();
        Check.finish();
    }

    private static void promise1() {
        ArraySegments x = new ArraySegments();
        Check.due("1 told(0)", x.told(0), 0);
        Check.due("1 ends", x.ends(), 1);
        Check.due("1 reached(0)", x.reached(0), RANGE);
        Check.due("1 variable(5, 1)", x.variable(5, 1), 0);
        Check.due("1 reference(5)", x.reference(5), 1);
        Check.due("1 status", new ArraySegments().status(), 0);
        Check.due("1 where", x.where(), NONE);
        Check.due("1 value", x.value(0), 0);
        Check.due("1 length", x.length(0), NONE);
        Check.due("1 same", x.same(0, 0), STATE);
        Check.due("1 run", x.run(1), 0);
        Check.due("1 holds", x.holds(1), 1);
    }

    private static void promise2() {
        Script s = new Script();
        Check.due("2 clear of none", s.on.clear(), 0);
        s.set(0, 5);
        s.makeOf(0, Script.INT, 1, 3);
        s.on.drop(0);
        Check.due("2 clear, dropped ones too", s.on.clear(), 3);
        Check.due("2 clear again", s.on.clear(), 0);
        Check.due("2 told", s.on.told(0), 0);
        Check.due("2 variable", s.on.variable(1, 1), 0);
        Check.due("2 array", s.on.array(2, 0), RANGE);
        Check.due("2 numbers begin again", s.set(0, 9), 0);
        Check.due("2 nothing is dropped any more", s.on.told(1), 1);
        Check.due("2 it is done", s.on.variable(0, 0), 9);
    }

    private static void promise3Numbers() {
        Script s = new Script();
        int[] numbers = {s.set(0, 1), s.input(0, 1, 1), s.add(0, 1, 2), s.less(0, 1, 2), s.make(0, 0, 0), s.none(0),
            s.same(0, 1), s.either(0, 1, 2), s.copyOf(0, 1), s.write(0, 0, 0, 0), s.read(0, 0, 0, 0),
            s.copy(0, 0, 0, 0, 0), s.fill(0, 0, 0, 0, 0), s.length(0, 0), s.maybe(1)};
        for (int i = 0; i < numbers.length; i++) {
            Check.due("3 number of act " + i, numbers[i], i);
        }
        Check.due("3 kind -1", s.on.act(-1, 0, 0, 0, 0, 0), RANGE);
        Check.due("3 kind 15", s.on.act(15, 0, 0, 0, 0, 0), RANGE);
        Check.due("3 kind least", s.on.act(Integer.MIN_VALUE, 0, 0, 0, 0, 0), RANGE);
        Check.due("3 refused ones are not there", s.on.told(0), 15);
    }

    /** What stands at a to e: v VARIABLE, r REFERENCE, l LANE, n a number, m how many of MAYBE, - nothing. */
    private static final String[] FORMS = {"vn---", "vnn--", "vvv--", "vvv--", "rlv--", "r----", "rr---", "rrr--",
        "rr---", "rlvv-", "vrlv-", "rvrvv", "rlvvv", "vr---", "-m---"};

    private static void promise3Ranges() {
        for (int kind = 0; kind < FORMS.length; kind++) {
            for (int k = 0; k < 5; k++) {
                char form = FORMS[kind].charAt(k);
                int least = form == 'n' ? -1000000 : form == 'm' ? 1 : 0;
                int greatest = form == 'n' ? 1000000 : form == 'm' ? 10 : form == 'l' ? 2 : 5;
                boolean looked = form != '-';
                if (looked) {
                    oneNumber(kind, k, least, true);
                    oneNumber(kind, k, greatest, true);
                }
                oneNumber(kind, k, least - 1, !looked);
                oneNumber(kind, k, greatest + 1, !looked);
                oneNumber(kind, k, Integer.MIN_VALUE, !looked);
                oneNumber(kind, k, Integer.MAX_VALUE, !looked);
            }
        }
        ArraySegments x = new ArraySegments();
        Check.due("3 input, b at most c", x.act(1, 0, 3, 3, 0, 0), 0);
        Check.due("3 input, b above c", x.act(1, 0, 4, 3, 0, 0), RANGE);
    }

    private static void oneNumber(int kind, int k, int number, boolean fits) {
        int[] n = {0, kind == 14 ? 1 : 0, 0, 0, 0};
        n[k] = number;
        if (kind == 1 && k == 1) {
            n[2] = Math.max(number, 0);
        }
        if (kind == 1 && k == 2) {
            n[1] = Math.min(number, 0);
        }
        int got = new ArraySegments().act(kind, n[0], n[1], n[2], n[3], n[4]);
        Check.due("3 kind " + kind + " with " + number + " at " + k, got, fits ? 0 : RANGE);
    }

    private static void promise3Unlooked() {
        ArraySegments x = new ArraySegments();
        Check.due("3 MAYBE looks at b alone", x.act(14, -9, 2, -9, 99, Integer.MIN_VALUE), 0);
        Check.due("3 SET looks at a, b alone", x.act(0, 2, 7, -9, 99, Integer.MIN_VALUE), 1);
        Check.due("3 its effect", x.variable(2, 1), 7);
    }

    private static void promise3Full() {
        ArraySegments x = new ArraySegments();
        for (int i = 0; i < 40; i++) {
            Check.due("3 forty go in", x.act(0, 0, i, 0, 0, 0), i);
        }
        Check.due("3 the next does not", x.act(0, 0, 40, 0, 0, 0), FULL);
        Check.due("3 RANGE goes ahead of FULL", x.act(0, 6, 0, 0, 0, 0), RANGE);
        Check.due("3 told", x.told(0), 40);
        Check.due("3 nothing was changed", x.variable(0, 0), 39);
        Check.due("3 the last can be dropped", x.drop(39), 1);
        Check.due("3 there is no other", x.drop(40), RANGE);
        Check.due("3 drop makes no room", x.act(0, 0, 1, 0, 0, 0), FULL);
        Check.due("3 clear", x.clear(), 40);
        Check.due("3 room again", x.act(0, 0, 1, 0, 0, 0), 0);
    }

    private static void promise4() {
        Script s = new Script();
        s.set(0, 5);
        s.set(1, 6);
        Check.due("4 drop", s.on.drop(0), 1);
        Check.due("4 drop again", s.on.drop(0), 0);
        Check.due("4 below", s.on.drop(-1), RANGE);
        Check.due("4 above", s.on.drop(2), RANGE);
        Check.due("4 far", s.on.drop(Integer.MAX_VALUE), RANGE);
        Check.due("4 done no more", s.on.variable(0, 1), 0);
        Check.due("4 the other is", s.on.variable(1, 1), 6);
        Check.due("4 nor on the machine", s.on.run(3), 0);
        Check.due("4 value", s.on.value(0), 0);
        Check.due("4 value of the other", s.on.value(1), 6);
        Check.due("4 numbers stay", s.set(2, 7), 2);
        Check.due("4 not REACHED", s.on.reached(0), 0);
        dropAndMaybe();
    }

    /** As if it were not there: a dropped ACT is none of the next b ones. */
    private static void dropAndMaybe() {
        Script s = new Script();
        s.maybe(1);
        s.set(0, 5);
        s.set(1, 6);
        Check.due("4 one of the MAYBE", s.span(0), "0..5");
        Check.due("4 one behind it", s.span(1), "6..6");
        s.on.drop(1);
        Check.due("4 the next one is of the MAYBE then", s.span(1), "0..6");
        Check.due("4 the dropped one is not done", s.span(0), "0..0");
        boolean both = s.on.run(1) == 0 && s.on.run(2) == 0;
        int seen = 0;
        for (int seed = 0; seed < 20; seed++) {
            s.on.run(seed);
            seen |= s.on.value(1) == 0 ? 1 : 2;
        }
        Check.isTrue("4 it is done in some runs alone", both && seen == 3);
        s.on.drop(0);
        Check.due("4 a dropped MAYBE leaves its ACTS", s.span(1), "6..6");
    }

    private static void promise5() {
        Script s = new Script();
        s.length(0, 0);
        s.set(0, 1);
        Check.due("5 the one that throws", s.on.reached(0), 1);
        Check.due("5 behind it", s.on.reached(1), 0);
        Check.due("5 below", s.on.reached(-1), RANGE);
        Check.due("5 above", s.on.reached(2), RANGE);
        Script m = new Script();
        m.maybe(3);
        m.length(0, 0);
        m.set(0, 1);
        m.set(0, 2);
        m.set(1, 3);
        int[] due = {1, 1, 0, 0, 1};
        for (int i = 0; i < due.length; i++) {
            Check.due("5 in MAYBE, act " + i, m.on.reached(i), due[i]);
        }
        Check.due("5 facts are those ahead", m.span(0), "0..0");
    }

    private static void promise6() {
        Script s = new Script();
        s.input(0, -1, 13);
        int made = s.make(0, Script.INT, 0);
        int read = s.read(1, 1, Script.INT, 0);
        int behind = s.read(1, 1, Script.INT, 0);
        Check.due("6 none", s.on.throwsAt(0), 0);
        Check.due("6 ROOM, SIZE", s.on.throwsAt(made), 1 << 3 | 1 << 7);
        Check.due("6 NULL", s.on.throwsAt(read), 1 << 1);
        Check.due("6 not REACHED", s.on.throwsAt(behind), 0);
        Check.due("6 below", s.on.throwsAt(-1), RANGE);
        Check.due("6 above", s.on.throwsAt(4), RANGE);
        s.on.drop(read);
        Check.due("6 dropped", s.on.throwsAt(read), 0);
        Check.due("6 REACHED now", s.on.throwsAt(behind), 1 << 1);
    }

    private static void promise7() {
        Script s = new Script();
        Check.due("7 no ACTS", s.on.ends(), 1);
        int bad = s.length(0, 0);
        Check.due("7 NULL always", s.on.ends(), 0);
        s.on.drop(bad);
        Check.due("7 dropped", s.on.ends(), 1);
        Script m = new Script();
        m.maybe(10);
        m.length(0, 0);
        Check.due("7 the PROGRAM's end ends a MAYBE", m.on.ends(), 1);
    }

    private static void promise8() {
        Script s = new Script();
        s.input(5, -1000000, 1000000);
        Check.due("8 least", s.on.variable(5, 0), -1000000);
        Check.due("8 greatest", s.on.variable(5, 1), 1000000);
        for (int wrong : WRONG) {
            Check.due("8 x " + wrong, s.on.variable(wrong, 0), RANGE);
        }
        Check.due("8 side -1", s.on.variable(0, -1), RANGE);
        Check.due("8 side 2", s.on.variable(0, 2), RANGE);
        s.length(0, 0);
        Check.due("8 STATE", s.on.variable(0, 0), STATE);
        Check.due("8 RANGE ahead of STATE", s.on.variable(6, 0), RANGE);
    }

    private static void promise9() {
        Script s = new Script();
        Check.due("9 NULL alone", s.on.reference(0), 1);
        s.makeOf(0, Script.INT, 0, 2);
        Check.due("9 one SITE", s.on.reference(0), 2);
        s.either(1, 0, 2);
        Check.due("9 one or NULL", s.on.reference(1), 3);
        s.copyOf(2, 0);
        s.either(3, 1, 2);
        Check.due("9 two or NULL", s.on.reference(3), 5);
        for (int wrong : WRONG) {
            Check.due("9 r " + wrong, s.on.reference(wrong), RANGE);
        }
        s.length(0, 5);
        Check.due("9 STATE", s.on.reference(0), STATE);
        Check.due("9 RANGE ahead of STATE", s.on.reference(6), RANGE);
    }

    private static void promise10() {
        Script s = new Script();
        int one = s.makeOf(0, Script.INT, 0, 2);
        int two = s.copyOf(1, 0);
        Check.due("10 its own", s.on.means(0, one), 1);
        Check.due("10 another's", s.on.means(0, two), 0);
        Check.due("10 no SITE", s.on.means(0, 0), 0);
        s.either(2, 0, 1);
        Check.due("10 either one", s.on.means(2, one), 1);
        Check.due("10 either other", s.on.means(2, two), 1);
        Check.due("10 i below", s.on.means(0, -1), RANGE);
        Check.due("10 i above", s.on.means(0, 4), RANGE);
        Check.due("10 i far", s.on.means(0, 64), RANGE);
        for (int wrong : WRONG) {
            Check.due("10 r " + wrong, s.on.means(wrong, 0), RANGE);
        }
        s.length(0, 5);
        Check.due("10 STATE", s.on.means(0, one), STATE);
        Check.due("10 RANGE ahead of STATE", s.on.means(0, 40), RANGE);
    }

    private static void promise11() {
        Script s = new Script();
        s.input(0, 2, 4);
        int site = s.make(0, Script.CHAR, 0);
        Check.due("11 lanes", s.on.array(site, 0), 2);
        Check.due("11 least length", s.on.array(site, 1), 2);
        Check.due("11 greatest length", s.on.array(site, 2), 4);
        Check.due("11 segments", s.on.array(site, 3), 1);
        Check.due("11 sorted", s.on.array(site, 4), 1);
        s.set(1, 1);
        s.set(2, 9);
        s.write(0, Script.CHAR, 1, 2);
        Check.due("11 segments then", s.on.array(site, 3), 3);
        Check.due("11 no more sorted", s.on.array(site, 4), 0);
        Check.due("11 no SITE", s.on.array(0, 0), NONE);
        Check.due("11 what -1", s.on.array(site, -1), RANGE);
        Check.due("11 what 5", s.on.array(site, 5), RANGE);
        Check.due("11 i -1", s.on.array(-1, 0), RANGE);
        Check.due("11 i above", s.on.array(5, 0), RANGE);
        s.length(0, 5);
        Check.due("11 STATE", s.on.array(site, 0), STATE);
        Check.due("11 STATE ahead of NONE", s.on.array(0, 0), STATE);
        Check.due("11 RANGE ahead of STATE", s.on.array(site, 5), RANGE);
        emptyAndSorted();
    }

    private static void emptyAndSorted() {
        Script s = new Script();
        int empty = s.makeOf(0, Script.BYTE, 0, 0);
        Check.due("11 no places, no segments", s.on.array(empty, 3), 0);
        Check.due("11 no places, sorted", s.on.array(empty, 4), 1);
        int site = s.makeOf(1, Script.INT, 0, 3);
        s.set(1, 1);
        s.input(2, 0, 4);
        s.write(1, Script.INT, 1, 2);
        s.set(1, 2);
        s.input(2, 4, 6);
        s.write(1, Script.INT, 1, 2);
        Check.due("11 0, 0..4, 4..6", s.on.array(site, 4), 1);
        s.input(2, 3, 6);
        s.write(1, Script.INT, 1, 2);
        Check.due("11 0, 0..4, 3..6", s.on.array(site, 4), 0);
        Check.due("11 three segments", s.segments(site), "0..1:0..0 1..2:0..4 2..3:3..6");
        Script not = new Script();
        not.maybe(2);
        not.set(0, 13);
        int none = not.make(0, Script.INT, 0);
        Check.due("11 its SITE makes none", not.on.array(none, 0), NONE);
        not.on.drop(0);
        not.on.drop(1);
        Check.due("11 it does now", not.on.array(none, 0), 4);
        not.on.drop(none);
        Check.due("11 dropped", not.on.array(none, 0), NONE);
    }

    private static void promise12() {
        Script s = new Script();
        int site = s.makeOf(0, Script.INT, 0, 5);
        s.set(1, 2);
        s.input(2, -7, 8);
        s.write(0, Script.INT, 1, 2);
        Check.due("12 all", s.segments(site), "0..2:0..0 2..3:-7..8 3..5:0..0");
        Check.due("12 k -1", s.on.segment(site, -1, 0), RANGE);
        Check.due("12 k 3", s.on.segment(site, 3, 0), RANGE);
        Check.due("12 k far", s.on.segment(site, Integer.MAX_VALUE, 0), RANGE);
        Check.due("12 what -1", s.on.segment(site, 0, -1), RANGE);
        Check.due("12 what 4", s.on.segment(site, 0, 4), RANGE);
        Check.due("12 i -1", s.on.segment(-1, 0, 0), RANGE);
        Check.due("12 i above", s.on.segment(5, 0, 0), RANGE);
        Check.due("12 NONE", s.on.segment(0, 0, 0), NONE);
        s.length(0, 5);
        Check.due("12 STATE", s.on.segment(site, 0, 0), STATE);
        Check.due("12 RANGE ahead of STATE", s.on.segment(site, 0, 4), RANGE);
        Script e = new Script();
        int empty = e.make(0, Script.INT, 0);
        Check.due("12 no segment 0", e.on.segment(empty, 0, 0), RANGE);
    }

    private static void promise13() {
        Script s = new Script();
        s.set(0, -2);
        int site = s.makeOf(0, Script.INT, 1, 3);
        Check.due("13 a number -2", s.on.variable(0, 0), -2);
        Check.due("13 status", s.on.status(), 0);
        Check.due("13 a refusal -2", s.on.variable(6, 0), -2);
        Check.due("13 status", s.on.status(), RANGE);
        Check.due("13 status again", s.on.status(), RANGE);
        Check.due("13 other calls leave it", s.on.told(0), 3);
        Check.due("13 status", s.on.status(), RANGE);
        Check.due("13 segment", s.on.segment(site, 0, 1), 3);
        Check.due("13 status", s.on.status(), 0);
        Check.due("13 no segment", s.on.segment(site, 1, 1), RANGE);
        Check.due("13 status", s.on.status(), RANGE);
        Check.due("13 no facts", s.on.segment(0, 0, 1), NONE);
        Check.due("13 status", s.on.status(), NONE);
        s.length(0, 5);
        Check.due("13 the end is not REACHED", s.on.segment(site, 0, 1), STATE);
        Check.due("13 status", s.on.status(), STATE);
        s.on.drop(3);
        Check.due("13 variable", s.on.variable(1, 0), 3);
        Check.due("13 status", s.on.status(), 0);
        for (int which = 0; which < 18; which++) {
            Check.due("13 a refusal", s.on.variable(0, 2), RANGE);
            otherCall(s.on, which);
            Check.due("13 status behind other call " + which, s.on.status(), RANGE);
            s.on.variable(0, 0);
            otherCall(s.on, which);
            Check.due("13 status 0 behind other call " + which, s.on.status(), 0);
        }
    }

    /** Every call but those that status() tells of, each with a number that is not as told where it has one. */
    private static int otherCall(ArraySegments on, int which) {
        switch (which) {
            case 0: return on.act(15, 0, 0, 0, 0, 0);
            case 1: return on.act(0, 0, 7, 0, 0, 0);
            case 2: return on.drop(-1);
            case 3: return on.reached(-1);
            case 4: return on.throwsAt(-1);
            case 5: return on.ends();
            case 6: return on.reference(-1);
            case 7: return on.means(-1, 0);
            case 8: return on.array(-1, 0);
            case 9: return on.array(0, 0);
            case 10: return on.run(1L);
            case 11: return on.where();
            case 12: return on.value(-1) + on.place(-1, 0);
            case 13: return on.length(-1);
            case 14: return on.same(-1, 0);
            case 15: return on.holds(1L);
            case 16: return on.told(-1);
            default: return on.clear();
        }
    }

    private static void promise14() {
        Script s = new Script();
        Check.due("14 no ACTS", s.on.run(Long.MIN_VALUE), 0);
        s.makeOf(0, Script.INT, 0, 13);
        Check.due("14 ROOM", s.on.run(0), 7);
        s.on.clear();
        s.makeOf(0, Script.INT, 0, -1);
        Check.due("14 SIZE", s.on.run(0), 3);
        s.on.clear();
        s.makeOf(0, Script.INT, 0, 12);
        Check.due("14 twelve are fine", s.on.run(Long.MAX_VALUE), 0);
        s.read(0, 0, Script.INT, 0);
        Check.due("14 INDEX", s.on.run(0), 5);
        Check.due("14 the same again", s.on.run(0), 5);
    }

    private static void promise15() {
        Script s = new Script();
        Check.due("15 no RUN", s.on.where(), NONE);
        s.set(0, 1);
        s.length(1, 3);
        Check.due("15 no RUN yet", s.on.where(), NONE);
        s.on.run(1);
        Check.due("15 where", s.on.where(), 1);
        s.on.drop(1);
        s.on.run(1);
        Check.due("15 at the end", s.on.where(), NONE);
    }

    private static void promise16() {
        Script s = new Script();
        s.set(0, 7);
        s.set(5, -3);
        Check.due("16 no RUN", s.on.value(0), 0);
        s.on.run(1);
        Check.due("16 value", s.on.value(0), 7);
        Check.due("16 last one", s.on.value(5), -3);
        for (int wrong : WRONG) {
            Check.due("16 x " + wrong, s.on.value(wrong), 0);
        }
        s.length(0, 0);
        s.set(0, 8);
        s.on.run(1);
        Check.due("16 behind a THROW", s.on.value(0), 7);
    }

    private static void promise17() {
        Script s = new Script();
        s.makeOf(0, Script.BYTE, 0, 3);
        s.set(1, 2);
        s.set(2, 200);
        s.write(0, Script.BYTE, 1, 2);
        Check.due("17 no RUN", s.on.place(0, 2), 0);
        s.on.run(1);
        Check.due("17 place", s.on.place(0, 2), -56);
        Check.due("17 another", s.on.place(0, 1), 0);
        Check.due("17 none such", s.on.place(0, 3), 0);
        Check.due("17 below", s.on.place(0, -1), 0);
        Check.due("17 far", s.on.place(0, Integer.MIN_VALUE), 0);
        Check.due("17 NULL", s.on.place(1, 2), 0);
        for (int wrong : WRONG) {
            Check.due("17 r " + wrong, s.on.place(wrong, 2), 0);
        }
    }

    private static void promise18() {
        Script s = new Script();
        s.makeOf(0, Script.BYTE, 0, 3);
        s.makeOf(1, Script.INT, 0, 0);
        Check.due("18 no RUN", s.on.length(0), NONE);
        s.on.run(1);
        Check.due("18 three", s.on.length(0), 3);
        Check.due("18 none at all", s.on.length(1), 0);
        Check.due("18 NULL", s.on.length(2), NONE);
        for (int wrong : WRONG) {
            Check.due("18 r " + wrong, s.on.length(wrong), RANGE);
        }
    }

    private static void promise19() {
        Script s = new Script();
        s.makeOf(0, Script.BYTE, 0, 3);
        s.copyOf(1, 0);
        s.same(2, 0);
        Check.due("19 no RUN", s.on.same(0, 0), STATE);
        Check.due("19 RANGE ahead of STATE", s.on.same(0, 6), RANGE);
        s.on.run(1);
        Check.due("19 itself", s.on.same(0, 0), 1);
        Check.due("19 a clone", s.on.same(0, 1), 0);
        Check.due("19 the same", s.on.same(2, 0), 1);
        Check.due("19 NULLS", s.on.same(3, 4), 1);
        Check.due("19 NULL and not", s.on.same(3, 0), 0);
        for (int wrong : WRONG) {
            Check.due("19 r " + wrong, s.on.same(wrong, 0), RANGE);
            Check.due("19 s " + wrong, s.on.same(0, wrong), RANGE);
        }
    }

    private static void promise20() {
        Script s = new Script();
        s.input(0, -1, 13);
        s.make(0, Script.BYTE, 0);
        s.maybe(2);
        s.input(1, 0, 300);
        s.fill(0, Script.BYTE, 2, 0, 1);
        s.either(1, 0, 3);
        int length = s.length(3, 1);
        int thrown = 0;
        for (int seed = 0; seed < 200; seed++) {
            Check.due("20 holds " + seed, s.on.holds(seed), 1);
            thrown |= 1 << (s.on.where() + 1);
        }
        Check.due("20 it is a RUN: the end, NEW, LENGTH", thrown, 1 | 1 << 2 | 1 << (length + 1));
        Check.due("20 after a refused act", s.set(6, 6), RANGE);
        s.on.holds(3);
        int value = s.on.value(0);
        s.on.run(3);
        Check.due("20 the RUN for that seed", s.on.value(0), value);
    }

    private static void promise21() {
        Script s = new Script();
        for (int what = 0; what <= 4; what++) {
            Check.due("21 nothing yet, " + what, s.on.told(what), 0);
        }
        s.input(0, 0, 13);
        s.make(0, Script.INT, 0);
        s.copyOf(1, 0);
        s.set(3, 1);
        s.on.drop(3);
        Check.due("21 ACTS", s.on.told(0), 4);
        Check.due("21 not dropped", s.on.told(1), 3);
        Check.due("21 REACHED", s.on.told(2), 3);
        Check.due("21 MAY THROW", s.on.told(3), 1);
        Check.due("21 SITES", s.on.told(4), 2);
        s.length(0, 5);
        s.length(0, 5);
        Check.due("21 REACHED then", s.on.told(2), 4);
        Check.due("21 MAY THROW then", s.on.told(3), 2);
        Check.due("21 SITES: the end is not REACHED", s.on.told(4), 0);
        for (int wrong : new int[] {-1, 5, Integer.MIN_VALUE, Integer.MAX_VALUE}) {
            Check.due("21 what " + wrong, s.on.told(wrong), RANGE);
        }
    }

    /** A changed PROGRAM has no RUN; one that was not changed keeps its. */
    private static void forgetting() {
        Script s = new Script();
        s.makeOf(0, Script.INT, 0, 3);
        s.length(1, 4);
        s.on.run(1);
        Check.due("a refused act changes nothing", s.set(0, 1000001), RANGE);
        Check.due("a refused drop changes nothing", s.on.drop(3), RANGE);
        Check.due("where", s.on.where(), 2);
        Check.due("length", s.on.length(0), 3);
        s.set(2, 2);
        Check.due("where behind act", s.on.where(), NONE);
        Check.due("length behind act", s.on.length(0), NONE);
        Check.due("same behind act", s.on.same(0, 0), STATE);
        s.on.run(1);
        s.on.drop(3);
        Check.due("value behind drop", s.on.value(0), 0);
        Check.due("same behind drop", s.on.same(0, 0), STATE);
        s.on.run(1);
        Check.due("dropped already", s.on.drop(3), 0);
        Check.due("that changes nothing", s.on.value(0), 3);
        s.on.clear();
        Check.due("value behind clear", s.on.value(0), 0);
        Check.due("place behind clear", s.on.place(0, 0), 0);
        Check.due("same behind clear", s.on.same(0, 0), STATE);
        s.on.run(1);
        Check.due("same behind a run of no ACTS", s.on.same(0, 0), 1);
        Check.due("clear of none", s.on.clear(), 0);
        Check.due("same behind clear of none", s.on.same(0, 0), STATE);
    }

    /** ACT 0 can be a SITE, too: of an array without places, for the VARIABLES are 0. */
    private static void siteZero() {
        Script s = new Script();
        Check.due("its number", s.make(0, Script.INT, 0), 0);
        s.copyOf(1, 0);
        s.copy(0, 0, 1, 0, 0);
        s.copy(1, 0, 0, 0, 0);
        Check.due("none of them throws", s.on.told(3), 0);
        Check.due("nor on the machine", s.on.run(1), 0);
        Check.due("length", s.on.length(0), 0);
        Check.due("length of the clone", s.on.length(1), 0);
        Check.due("not the same", s.on.same(0, 1), 0);
        Check.due("not NULL", s.on.same(0, 2), 0);
        Check.due("means it", s.on.means(0, 0), 1);
        Check.due("holds", s.on.holds(1), 1);
    }
}
