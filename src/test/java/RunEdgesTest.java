import java.math.BigInteger;

/**
 * The boundary cases of '3 A RUN': a method for each sentence that names one, with the sentence above it.
 * The DRAWS are worked out here with numbers of any size, cut to 64 bits where the document goes round.
 */
public final class RunEdgesTest {
    private static final BigInteger ROUND = BigInteger.ONE.shiftLeft(64);
    private static final BigInteger STEP = new BigInteger("9E3779B97F4A7C15", 16);
    private static final BigInteger FIRST = new BigInteger("BF58476D1CE4E5B9", 16);
    private static final BigInteger SECOND = new BigInteger("94D049BB133111EB", 16);
    private static final long[] SEEDS = {0L, 1L, -1L, Long.MIN_VALUE, Long.MAX_VALUE, 0x61C8864680B583EBL,
        0x61C8864680B583EAL, 0x8000000000000001L, 1234567890123456789L, 1L << 32, 1L << 31, -1L >>> 1};

    private RunEdgesTest() {
    }

    public static void main(String[] args) {
        knownDraws();
        drawsGoRound();
        drawOfZero();
        inputTakesTheHighestBits();
        inputUpToItsEnds();
        evenIsFirst();
        eachTakesOneDraw();
        othersTakeNone();
        notDoneTakesNone();
        seedBeginsAnew();
        Check.finish();
    }

    /** The k-th DRAW for a seed, k from 1 on, as a number 0 .. 2^64 - 1. */
    private static BigInteger draw(long seed, int k) {
        BigInteger z = BigInteger.valueOf(seed).add(STEP.multiply(BigInteger.valueOf(k))).mod(ROUND);
        z = z.xor(z.shiftRight(30)).multiply(FIRST).mod(ROUND);
        z = z.xor(z.shiftRight(27)).multiply(SECOND).mod(ROUND);
        return z.xor(z.shiftRight(31));
    }

    private static int inputOf(long seed, int k, int least, int greatest) {
        BigInteger many = BigInteger.valueOf((long) greatest - least + 1);
        return least + draw(seed, k).shiftRight(33).mod(many).intValueExact();
    }

    private static boolean isEven(long seed, int k) {
        return !draw(seed, k).testBit(0);
    }

    /** "z is (z ^ z >>> 30) * 0xBF58476D1CE4E5B9; .." for the seed 0: DRAWS that are known elsewhere. */
    private static void knownDraws() {
        String[] known = {"e220a8397b1dcdaf", "6e789e6aa1b965f4", "6c45d188009454f", "f88bb8a8724c81ec",
            "1b39896a51a8749b"};
        Script s = new Script();
        for (int k = 0; k < 5; k++) {
            Check.due("DRAW " + k + " as known", draw(0L, k + 1).toString(16), known[k]);
            s.input(k, 0, 1000000);
        }
        s.on.run(0L);
        for (int k = 0; k < 5; k++) {
            long due = (new BigInteger(known[k], 16).longValue() >>> 33) % 1000001;
            Check.due("INPUT of DRAW " + k, s.on.value(k), due);
        }
        Check.due("the first by hand: 1896895516 mod 1000001", s.on.value(0), 893620);
    }

    /** "a DRAW makes STATE (the seed at first) greater by 0x9E3779B97F4A7C15", going round. */
    private static void drawsGoRound() {
        Script s = new Script();
        for (int k = 0; k < 6; k++) {
            s.input(k, -1000000, 1000000);
        }
        for (long seed : SEEDS) {
            s.on.run(seed);
            for (int k = 0; k < 6; k++) {
                Check.due("seed " + seed + ", DRAW " + k, s.on.value(k), inputOf(seed, k + 1, -1000000, 1000000));
            }
        }
    }

    /** The seed whose STATE goes round to 0: the DRAW is 0, so INPUT is b, and it is even. */
    private static void drawOfZero() {
        long seed = 0x61C8864680B583EBL;
        Script s = new Script();
        s.input(0, -7, 1000000);
        s.on.run(seed);
        Check.due("INPUT is b", s.on.value(0), -7);
        s.on.clear();
        s.maybe(1);
        s.set(0, 5);
        s.on.run(seed);
        Check.due("MAYBE is done", s.on.value(0), 5);
    }

    /** "INPUT is b and the highest 31 bits (a DRAW >>> 33) modulo (c - b + 1)" */
    private static void inputTakesTheHighestBits() {
        int[][] spans = {{0, 1}, {-1, 1}, {5, 260}, {-1000000, -999999}, {-1000000, 1000000}, {999998, 1000000}};
        for (int[] span : spans) {
            Script s = new Script();
            s.input(2, span[0], span[1]);
            for (long seed = 0; seed < 50; seed++) {
                s.on.run(seed);
                Check.due("INPUT " + span[0] + ".." + span[1] + ", seed " + seed, s.on.value(2),
                    inputOf(seed, 1, span[0], span[1]));
            }
        }
    }

    /** "any int from b to c": b and c both come, and none beyond them. */
    private static void inputUpToItsEnds() {
        Script s = new Script();
        s.input(0, -1, 2);
        int seen = 0;
        for (long seed = 0; seed < 100; seed++) {
            s.on.run(seed);
            int value = s.on.value(0);
            Check.isTrue("-1 .. 2", value >= -1 && value <= 2);
            seen |= 1 << value + 1;
        }
        Check.due("all four come", seen, 15);
    }

    /** "EITHER s, MAYBE done, if the DRAW is even." */
    private static void evenIsFirst() {
        Script either = new Script();
        either.makeOf(0, Script.INT, 0, 1);
        either.makeOf(1, Script.INT, 0, 2);
        either.either(2, 0, 1);
        Script maybe = new Script();
        maybe.maybe(1);
        maybe.set(0, 1);
        int seen = 0;
        for (long seed = -30; seed < 30; seed++) {
            boolean even = isEven(seed, 1);
            either.on.run(seed);
            maybe.on.run(seed);
            Check.due("EITHER, seed " + seed, either.on.length(2), even ? 1 : 2);
            Check.due("MAYBE, seed " + seed, maybe.on.value(0), even ? 1 : 0);
            seen |= even ? 1 : 2;
        }
        Check.due("both come", seen, 3);
        for (long seed : SEEDS) {
            maybe.on.run(seed);
            Check.due("MAYBE, seed " + seed, maybe.on.value(0), isEven(seed, 1) ? 1 : 0);
        }
    }

    /** INPUT of one number and EITHER of one array are DRAWN for, too. */
    private static void eachTakesOneDraw() {
        Script s = new Script();
        s.input(0, 3, 3);
        s.either(0, 1, 1);
        s.maybe(1);
        s.set(0, 3);
        s.input(1, 0, 1000000);
        for (long seed : SEEDS) {
            s.on.run(seed);
            Check.due("the fourth DRAW, seed " + seed, s.on.value(1), inputOf(seed, 4, 0, 1000000));
        }
    }

    /** No other ACT makes a DRAW, nor does a dropped one, nor a MAYBE among another's ACTS. */
    private static void othersTakeNone() {
        Script s = new Script();
        s.makeOf(0, Script.INT, 0, 3);
        s.none(1);
        s.same(1, 0);
        s.copyOf(2, 1);
        s.write(2, Script.INT, 1, 0);
        s.read(2, 2, Script.INT, 1);
        s.copy(2, 1, 0, 1, 0);
        s.fill(0, Script.INT, 1, 0, 0);
        s.length(3, 0);
        s.add(3, 3, 3);
        s.less(3, 3, 3);
        s.on.drop(s.input(4, 0, 9));
        s.on.drop(s.either(0, 1, 2));
        s.on.drop(s.maybe(3));
        s.input(4, 0, 1000000);
        s.maybe(2);
        s.maybe(2);
        s.set(3, 1);
        s.input(5, 0, 1000000);
        for (long seed : SEEDS) {
            Check.due("no THROW", s.on.run(seed), 0);
            Check.due("the first DRAW, seed " + seed, s.on.value(4), inputOf(seed, 1, 0, 1000000));
            Check.due("the third DRAW, seed " + seed, s.on.value(5), inputOf(seed, 3, 0, 1000000));
        }
    }

    /** ACTS of a MAYBE that is not done make no DRAWS. */
    private static void notDoneTakesNone() {
        Script s = new Script();
        s.maybe(2);
        s.input(0, 0, 1000000);
        s.either(0, 1, 2);
        s.input(1, 0, 1000000);
        int seen = 0;
        for (long seed = 0; seed < 30; seed++) {
            s.on.run(seed);
            boolean done = isEven(seed, 1);
            Check.due("in the MAYBE", s.on.value(0), done ? inputOf(seed, 2, 0, 1000000) : 0);
            Check.due("behind it", s.on.value(1), inputOf(seed, done ? 4 : 2, 0, 1000000));
            seen |= done ? 1 : 2;
        }
        Check.due("done or not", seen, 3);
    }

    /** "STATE (the seed at first)": an earlier RUN leaves nothing to a later one. */
    private static void seedBeginsAnew() {
        Script s = new Script();
        s.input(0, 0, 1000000);
        s.maybe(1);
        s.input(1, 0, 1000000);
        for (long seed : SEEDS) {
            s.on.run(seed);
            int first = s.on.value(0);
            int second = s.on.value(1);
            s.on.run(~seed);
            s.on.holds(seed);
            Check.due("again, by holds, seed " + seed, s.on.value(0), first);
            Check.due("and the next, seed " + seed, s.on.value(1), second);
        }
    }
}
