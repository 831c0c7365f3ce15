import java.lang.reflect.Field;

/**
 * Promise 20: 1 where the RUN is as the FACTS say, "else 0". The FACTS that the class finds are always
 * wide enough, so no PROGRAM brings the 0: here the FACTS are made too narrow from outside, one at a time.
 */
public final class HoldsTest {
    private static final int SITE = 1;
    private static final int PLACES = 12;

    private interface Change {
        void on(Facts facts) throws ReflectiveOperationException;
    }

    /** The rows of the FACTS inside an object, found by their names. */
    private record Facts(Object flow, Object now) {
        static Facts of(ArraySegments x) throws ReflectiveOperationException {
            Object flow = part(x, "flow").get(x);
            return new Facts(flow, part(flow, "now").get(flow));
        }

        static Field part(Object of, String name) throws ReflectiveOperationException {
            Field field = of.getClass().getDeclaredField(name);
            field.setAccessible(true);
            return field;
        }

        void ints(String name, int at, int number) throws ReflectiveOperationException {
            ((int[]) part(now, name).get(now))[at] = number;
        }

        void sites(int r, long number) throws ReflectiveOperationException {
            ((long[]) part(now, "sites").get(now))[r] = number;
        }

        void notReached() throws ReflectiveOperationException {
            part(now, "isReached").setBoolean(now, false);
        }

        void mayThrow(int i, int bits) throws ReflectiveOperationException {
            ((int[]) part(flow, "mayThrow").get(flow))[i] = bits;
        }

        void notReached(int i) throws ReflectiveOperationException {
            ((boolean[]) part(flow, "isReached").get(flow))[i] = false;
        }
    }

    private HoldsTest() {
    }

    public static void main(String[] args) throws ReflectiveOperationException {
        variables();
        references();
        arrays();
        places();
        theEnd();
        throwing();
        eachThrow();
        Check.finish();
    }

    /** An INT array 5 0 5 in REFERENCE 0, its SITE is ACT 1; VARIABLES 0, 5 are 3, 5; all comes to the end. */
    private static Script ending() {
        Script s = new Script();
        s.makeOf(0, Script.INT, 0, 3);
        s.put(0, Script.INT, 0, 5);
        s.put(0, Script.INT, 2, 5);
        s.set(4, 0);
        return s;
    }

    private static void due(String what, Script s, int due, Change change) throws ReflectiveOperationException {
        Check.due(what + ": as it is", s.on.holds(1L), 1);
        change.on(Facts.of(s.on));
        Check.due(what, s.on.holds(1L), due);
    }

    /** "each VARIABLE lies in its SPAN" */
    private static void variables() throws ReflectiveOperationException {
        due("the first above its SPAN", ending(), 0, f -> f.ints("greatest", 0, 2));
        due("the first below its SPAN", ending(), 0, f -> f.ints("least", 0, 4));
        due("the last above its SPAN", ending(), 0, f -> f.ints("greatest", 5, 4));
        due("the last below its SPAN", ending(), 0, f -> f.ints("least", 5, 6));
        due("at the greatest", ending(), 1, f -> f.ints("least", 0, -9));
        due("at the least", ending(), 1, f -> f.ints("greatest", 0, 9));
    }

    /** "each REFERENCE is NULL or means a SITE that it may" */
    private static void references() throws ReflectiveOperationException {
        due("no SITE", ending(), 0, f -> f.sites(0, 0L));
        due("another SITE alone", ending(), 0, f -> f.sites(0, 1L << SITE + 1));
        due("another SITE, too", ending(), 1, f -> f.sites(0, 3L << SITE));
        Script s = ending();
        s.same(5, 0);
        due("the last REFERENCE", s, 0, f -> f.sites(5, 0L));
        due("NULL where a SITE may be", ending(), 1, f -> f.sites(5, 1L << SITE));
    }

    /** "with a length, a LANE" */
    private static void arrays() throws ReflectiveOperationException {
        due("too long", ending(), 0, f -> f.ints("longest", SITE, 2));
        due("too short", ending(), 0, f -> f.ints("shortest", SITE, 4));
        due("longer ones, too", ending(), 1, f -> f.ints("longest", SITE, 12));
        due("shorter ones, too", ending(), 1, f -> f.ints("shortest", SITE, 0));
        due("another LANE", ending(), 0, f -> f.ints("lanes", SITE, 1));
        due("both other LANES", ending(), 0, f -> f.ints("lanes", SITE, 3));
        due("another LANE, too", ending(), 1, f -> f.ints("lanes", SITE, 5));
    }

    /** "and at each place a number that may be" */
    private static void places() throws ReflectiveOperationException {
        int first = SITE * PLACES;
        due("the first above", ending(), 0, f -> f.ints("greatestAt", first, 4));
        due("the first below", ending(), 0, f -> f.ints("leastAt", first, 6));
        due("the last above", ending(), 0, f -> f.ints("greatestAt", first + 2, 4));
        due("the last below", ending(), 0, f -> f.ints("leastAt", first + 2, 6));
        due("one behind the last", ending(), 1, f -> f.ints("leastAt", first + 3, 1));
        due("the one ahead of the first", ending(), 1, f -> f.ints("leastAt", first - 1, 1));
        due("more, too", ending(), 1, f -> f.ints("leastAt", first, -9));
    }

    /** At the end, which is REACHED. */
    private static void theEnd() throws ReflectiveOperationException {
        due("the end is not REACHED", ending(), 0, Facts::notReached);
    }

    private static Script throwing(int which) {
        Script s = new Script();
        s.makeOf(0, Script.INT, 0, which == 7 ? 13 : which == 3 ? -1 : 3);
        s.make(1, Script.BYTE, 0);
        switch (which) {
            case 1:
                s.length(0, 5);
                break;
            case 2:
                s.read(0, 0, Script.BYTE, 0);
                break;
            case 4:
                s.copy(0, 0, 1, 0, 0);
                break;
            case 5:
                s.read(0, 0, Script.INT, 0);
                break;
            default:
                break;
        }
        return s;
    }

    /** "1 if its THROW is one that its ACT MAY THROW, and that ACT is REACHED" */
    private static void throwing() throws ReflectiveOperationException {
        due("it may throw nothing", throwing(1), 0, f -> f.mayThrow(3, 0));
        due("it may throw all others", throwing(1), 0, f -> f.mayThrow(3, ~2));
        due("it may throw others, too", throwing(1), 1, f -> f.mayThrow(3, ~0));
        due("it is not REACHED", throwing(1), 0, f -> f.notReached(3));
        due("another ACT may throw nothing", throwing(1), 1, f -> f.mayThrow(2, 0));
    }

    private static void eachThrow() throws ReflectiveOperationException {
        for (int thrown : new int[] {1, 2, 3, 4, 5, 7}) {
            Script s = throwing(thrown);
            Check.due("THROW " + thrown, s.on.run(1L), thrown);
            int at = s.on.where();
            Check.due("throwsAt has its bit", s.on.throwsAt(at) >>> thrown & 1, 1);
            due("all but THROW " + thrown, s, 0, f -> f.mayThrow(at, ~(1 << thrown)));
        }
    }
}
