/**
 * What arrays of a small program can hold, whatever comes in, and the program done for a seed
 * against these facts. The words in capitals are those of the document.
 */
public final class ArraySegments {
    public static final int NONE = -1, RANGE = -2, STATE = -3, FULL = -4;

    private static final int ACTS = 40;
    private static final int VARIABLES = 6;
    private static final int REFERENCES = 6;
    private static final int LANES = 3;
    private static final int PLACES = 12;
    private static final int FAR = 1000000;
    private static final int MOST_MAYBE = 10;
    private static final int LEAST_INT = 0x80000000;
    private static final int GREATEST_INT = 0x7FFFFFFF;

    private static final int BYTE = 0;
    private static final int CHAR = 1;

    private static final int SET = 0;
    private static final int INPUT = 1;
    private static final int ADD = 2;
    private static final int LESS = 3;
    private static final int NEW = 4;
    private static final int NO_ARRAY = 5;
    private static final int SAME = 6;
    private static final int EITHER = 7;
    private static final int CLONE = 8;
    private static final int WRITE = 9;
    private static final int READ = 10;
    private static final int COPY = 11;
    private static final int FILL = 12;
    private static final int LENGTH = 13;
    private static final int MAYBE = 14;

    private static final int NULL_THROW = 1;
    private static final int CAST_THROW = 2;
    private static final int SIZE_THROW = 3;
    private static final int STORE_THROW = 4;
    private static final int INDEX_THROW = 5;
    private static final int ROOM_THROW = 7;

    private final Program program;
    private final Flow flow;
    private final Machine machine;
    private int lastStatus;

    public ArraySegments() {
        program = new Program();
        flow = new Flow();
        machine = new Machine();
        lastStatus = 0;
    }

    public int clear() {
        int many = program.count;
        program.removeAll();
        programChanged();
        return many;
    }

    public int act(int kind, int a, int b, int c, int d, int e) {
        if (!Program.isAct(kind, a, b, c, d, e)) {
            return RANGE;
        }
        if (program.count >= ACTS) {
            return FULL;
        }
        int number = program.append(kind, a, b, c, d, e);
        programChanged();
        return number;
    }

    public int drop(int i) {
        if (!program.hasAct(i)) {
            return RANGE;
        }
        if (program.dropped[i]) {
            return 0;
        }
        program.dropped[i] = true;
        programChanged();
        return 1;
    }

    // ---- facts

    public int reached(int i) {
        if (!program.hasAct(i)) {
            return RANGE;
        }
        flow.follow(program);
        return flow.isReached[i] ? 1 : 0;
    }

    public int throwsAt(int i) {
        if (!program.hasAct(i)) {
            return RANGE;
        }
        flow.follow(program);
        return flow.mayThrow[i];
    }

    public int ends() {
        flow.follow(program);
        return flow.now.isReached ? 1 : 0;
    }

    public int variable(int x, int side) {
        if (!isVariable(x) || side < 0 || side > 1) {
            return refuse(RANGE);
        }
        flow.follow(program);
        if (!flow.now.isReached) {
            return refuse(STATE);
        }
        return tell(side == 0 ? flow.now.least[x] : flow.now.greatest[x]);
    }

    public int reference(int r) {
        if (!isReference(r)) {
            return RANGE;
        }
        flow.follow(program);
        if (!flow.now.isReached) {
            return STATE;
        }
        return 2 * Long.bitCount(flow.now.sites[r]) + (flow.now.maybeNull[r] ? 1 : 0);
    }

    public int means(int r, int i) {
        if (!isReference(r) || !program.hasAct(i)) {
            return RANGE;
        }
        flow.follow(program);
        if (!flow.now.isReached) {
            return STATE;
        }
        return isIn(flow.now.sites[r], i) ? 1 : 0;
    }

    public int array(int i, int what) {
        if (!program.hasAct(i) || what < 0 || what > 4) {
            return RANGE;
        }
        flow.follow(program);
        if (!flow.now.isReached) {
            return STATE;
        }
        Facts facts = flow.now;
        if (!facts.known[i]) {
            return NONE;
        }
        switch (what) {
            case 0:
                return facts.lanes[i];
            case 1:
                return facts.shortest[i];
            case 2:
                return facts.longest[i];
            case 3:
                return facts.countSegments(i);
            default:
                return facts.isSorted(i) ? 1 : 0;
        }
    }

    public int segment(int i, int k, int what) {
        if (!program.hasAct(i) || k < 0 || what < 0 || what > 3) {
            return refuse(RANGE);
        }
        flow.follow(program);
        if (!flow.now.isReached) {
            return refuse(STATE);
        }
        Facts facts = flow.now;
        if (!facts.known[i]) {
            return refuse(NONE);
        }
        int first = facts.firstOfSegment(i, k);
        if (first < 0) {
            return refuse(RANGE);
        }
        switch (what) {
            case 0:
                return tell(first);
            case 1:
                return tell(facts.behindSegment(i, first));
            case 2:
                return tell(facts.leastAt[i * PLACES + first]);
            default:
                return tell(facts.greatestAt[i * PLACES + first]);
        }
    }

    public int status() {
        return lastStatus;
    }

    // ---- runs

    public int run(long seed) {
        machine.perform(program, seed);
        return machine.thrown;
    }

    public int where() {
        return machine.thrownAt;
    }

    public int value(int x) {
        return isVariable(x) ? machine.values[x] : 0;
    }

    public int place(int r, int i) {
        if (!isReference(r)) {
            return 0;
        }
        int site = machine.meant[r];
        if (site < 0 || i < 0 || i >= machine.lengths[site]) {
            return 0;
        }
        return machine.cells[site * PLACES + i];
    }

    public int length(int r) {
        if (!isReference(r)) {
            return RANGE;
        }
        int site = machine.meant[r];
        return site < 0 ? NONE : machine.lengths[site];
    }

    public int same(int r, int s) {
        if (!isReference(r) || !isReference(s)) {
            return RANGE;
        }
        if (!machine.hasRun) {
            return STATE;
        }
        return machine.meant[r] == machine.meant[s] ? 1 : 0;
    }

    public int holds(long seed) {
        flow.follow(program);
        machine.perform(program, seed);
        boolean kept = machine.thrown == 0 ? endHolds() : throwHolds();
        return kept ? 1 : 0;
    }

    public int told(int what) {
        if (what < 0 || what > 4) {
            return RANGE;
        }
        flow.follow(program);
        switch (what) {
            case 0:
                return program.count;
            case 1:
                return program.countKept();
            case 2:
                return flow.countReached();
            case 3:
                return flow.countThrowing();
            default:
                return flow.now.isReached ? flow.now.countKnown() : 0;
        }
    }

    private void programChanged() {
        flow.isOld = true;
        machine.forget();
    }

    private int refuse(int refusal) {
        lastStatus = refusal;
        return refusal;
    }

    private int tell(int number) {
        lastStatus = 0;
        return number;
    }

    private boolean throwHolds() {
        int i = machine.thrownAt;
        return program.hasAct(i) && flow.isReached[i] && (flow.mayThrow[i] >>> machine.thrown & 1) == 1;
    }

    private boolean endHolds() {
        if (!flow.now.isReached) {
            return false;
        }
        for (int x = 0; x < VARIABLES; x++) {
            if (machine.values[x] < flow.now.least[x] || machine.values[x] > flow.now.greatest[x]) {
                return false;
            }
        }
        for (int r = 0; r < REFERENCES; r++) {
            if (!referenceHolds(r)) {
                return false;
            }
        }
        return true;
    }

    private boolean referenceHolds(int r) {
        int site = machine.meant[r];
        if (site < 0) {
            return flow.now.maybeNull[r];
        }
        return isIn(flow.now.sites[r], site) && flow.now.known[site] && arrayHolds(site);
    }

    private boolean arrayHolds(int site) {
        Facts facts = flow.now;
        int many = machine.lengths[site];
        if (many < facts.shortest[site] || many > facts.longest[site]) {
            return false;
        }
        if ((facts.lanes[site] >>> machine.lanes[site] & 1) == 0) {
            return false;
        }
        for (int p = 0; p < many && p < PLACES; p++) {
            int at = site * PLACES + p;
            if (machine.cells[at] < facts.leastAt[at] || machine.cells[at] > facts.greatestAt[at]) {
                return false;
            }
        }
        return true;
    }

    private static boolean isVariable(int x) {
        return x >= 0 && x < VARIABLES;
    }

    private static boolean isReference(int r) {
        return r >= 0 && r < REFERENCES;
    }

    private static boolean isLane(int l) {
        return l >= 0 && l < LANES;
    }

    private static boolean isNumber(int n) {
        return n >= -FAR && n <= FAR;
    }

    private static boolean isIn(long sites, int i) {
        return (sites >>> i & 1L) == 1L;
    }

    private static int leastOfLane(int lane) {
        if (lane == BYTE) {
            return -128;
        }
        return lane == CHAR ? 0 : LEAST_INT;
    }

    private static int greatestOfLane(int lane) {
        if (lane == BYTE) {
            return 127;
        }
        return lane == CHAR ? 65535 : GREATEST_INT;
    }

    /** The ACTS, those that are dropped among them, for they keep their numbers. */
    private static final class Program {
        /** Six a row: the kind, then a to e. */
        private static final int WIDTH = 6;

        final int[] rows = new int[ACTS * WIDTH];
        final boolean[] dropped = new boolean[ACTS];
        int count = 0;

        static boolean isAct(int kind, int a, int b, int c, int d, int e) {
            switch (kind) {
                case SET:
                    return isVariable(a) && isNumber(b);
                case INPUT:
                    return isVariable(a) && isNumber(b) && isNumber(c) && b <= c;
                case ADD:
                case LESS:
                    return isVariable(a) && isVariable(b) && isVariable(c);
                case NEW:
                    return isReference(a) && isLane(b) && isVariable(c);
                case NO_ARRAY:
                    return isReference(a);
                case SAME:
                case CLONE:
                    return isReference(a) && isReference(b);
                case EITHER:
                    return isReference(a) && isReference(b) && isReference(c);
                case WRITE:
                    return isReference(a) && isLane(b) && isVariable(c) && isVariable(d);
                case READ:
                    return isVariable(a) && isReference(b) && isLane(c) && isVariable(d);
                case COPY:
                    return isReference(a) && isVariable(b) && isReference(c) && isVariable(d) && isVariable(e);
                case FILL:
                    return isReference(a) && isLane(b) && isVariable(c) && isVariable(d) && isVariable(e);
                case LENGTH:
                    return isVariable(a) && isReference(b);
                case MAYBE:
                    return b >= 1 && b <= MOST_MAYBE;
                default:
                    return false;
            }
        }

        boolean hasAct(int i) {
            return i >= 0 && i < count && i < ACTS;
        }

        /** Asked only for an ACT that isAct() lets pass, and while there is room. */
        int append(int kind, int a, int b, int c, int d, int e) {
            int at = count * WIDTH;
            rows[at] = kind;
            rows[at + 1] = a;
            rows[at + 2] = b;
            rows[at + 3] = c;
            rows[at + 4] = d;
            rows[at + 5] = e;
            dropped[count] = false;
            count++;
            return count - 1;
        }

        void removeAll() {
            count = 0;
        }

        int countKept() {
            int many = 0;
            for (int i = 0; i < count; i++) {
                if (!dropped[i]) {
                    many++;
                }
            }
            return many;
        }

        int kindOf(int i) {
            return rows[i * WIDTH];
        }

        int a(int i) {
            return rows[i * WIDTH + 1];
        }

        int b(int i) {
            return rows[i * WIDTH + 2];
        }

        int c(int i) {
            return rows[i * WIDTH + 3];
        }

        int d(int i) {
            return rows[i * WIDTH + 4];
        }

        int e(int i) {
            return rows[i * WIDTH + 5];
        }
    }

    /** The FACTS at one point of the PROGRAM; without meaning where that is not REACHED. */
    private static final class Facts {
        boolean isReached = false;
        final int[] least = new int[VARIABLES];
        final int[] greatest = new int[VARIABLES];
        /** Bit i: it may mean the ARRAY whose SITE is ACT i. */
        final long[] sites = new long[REFERENCES];
        final boolean[] maybeNull = new boolean[REFERENCES];
        final boolean[] known = new boolean[ACTS];
        final int[] lanes = new int[ACTS];
        final int[] shortest = new int[ACTS];
        final int[] longest = new int[ACTS];
        final int[] leastAt = new int[ACTS * PLACES];
        final int[] greatestAt = new int[ACTS * PLACES];

        void begin() {
            isReached = true;
            for (int x = 0; x < VARIABLES; x++) {
                setSpan(x, 0, 0);
            }
            for (int r = 0; r < REFERENCES; r++) {
                sites[r] = 0L;
                maybeNull[r] = true;
            }
            for (int i = 0; i < ACTS; i++) {
                known[i] = false;
            }
        }

        void takeOver(Facts other) {
            isReached = other.isReached;
            System.arraycopy(other.least, 0, least, 0, VARIABLES);
            System.arraycopy(other.greatest, 0, greatest, 0, VARIABLES);
            System.arraycopy(other.sites, 0, sites, 0, REFERENCES);
            for (int r = 0; r < REFERENCES; r++) {
                maybeNull[r] = other.maybeNull[r];
            }
            for (int i = 0; i < ACTS; i++) {
                known[i] = other.known[i];
            }
            System.arraycopy(other.lanes, 0, lanes, 0, ACTS);
            System.arraycopy(other.shortest, 0, shortest, 0, ACTS);
            System.arraycopy(other.longest, 0, longest, 0, ACTS);
            System.arraycopy(other.leastAt, 0, leastAt, 0, ACTS * PLACES);
            System.arraycopy(other.greatestAt, 0, greatestAt, 0, ACTS * PLACES);
        }

        void joinWith(Facts other) {
            if (!other.isReached) {
                return;
            }
            if (!isReached) {
                takeOver(other);
                return;
            }
            for (int x = 0; x < VARIABLES; x++) {
                least[x] = Math.min(least[x], other.least[x]);
                greatest[x] = Math.max(greatest[x], other.greatest[x]);
            }
            for (int r = 0; r < REFERENCES; r++) {
                sites[r] |= other.sites[r];
                maybeNull[r] = maybeNull[r] || other.maybeNull[r];
            }
            for (int i = 0; i < ACTS; i++) {
                if (other.known[i]) {
                    addArray(i, other, i);
                }
            }
        }

        /** ARRAY i also is what ARRAY j of the other FACTS is; just that, if there was none. */
        void addArray(int i, Facts other, int j) {
            boolean had = known[i];
            known[i] = true;
            lanes[i] = had ? lanes[i] | other.lanes[j] : other.lanes[j];
            shortest[i] = had ? Math.min(shortest[i], other.shortest[j]) : other.shortest[j];
            longest[i] = had ? Math.max(longest[i], other.longest[j]) : other.longest[j];
            for (int p = 0; p < PLACES; p++) {
                int to = i * PLACES + p;
                int from = j * PLACES + p;
                leastAt[to] = had ? Math.min(leastAt[to], other.leastAt[from]) : other.leastAt[from];
                greatestAt[to] = had ? Math.max(greatestAt[to], other.greatestAt[from]) : other.greatestAt[from];
            }
        }

        void makeArray(int i, int lane, int fewest, int most) {
            known[i] = true;
            lanes[i] = 1 << lane;
            shortest[i] = fewest;
            longest[i] = most;
            putSpan(i, 0, PLACES, 0, 0, true);
        }

        /** The places of ARRAY i from first up to below behind become the SPAN, or are JOINED with it. */
        void putSpan(int i, int first, long behind, int low, int high, boolean strong) {
            for (int p = Math.max(first, 0); p < behind && p < PLACES; p++) {
                int at = i * PLACES + p;
                leastAt[at] = strong ? low : Math.min(leastAt[at], low);
                greatestAt[at] = strong ? high : Math.max(greatestAt[at], high);
            }
        }

        /** Overlapping is fine: arraycopy, too, answers as if all were read first. */
        void movePlaces(int from, int first, int to, int target, int many) {
            int fitting = Math.min(many, PLACES - Math.max(first, target));
            if (fitting > 0 && first >= 0 && target >= 0) {
                System.arraycopy(leastAt, from * PLACES + first, leastAt, to * PLACES + target, fitting);
                System.arraycopy(greatestAt, from * PLACES + first, greatestAt, to * PLACES + target, fitting);
            }
        }

        void setSpan(int x, int low, int high) {
            least[x] = low;
            greatest[x] = high;
        }

        void setOutcome(int x, long low, long high) {
            if (low < LEAST_INT || high > GREATEST_INT) {
                setSpan(x, LEAST_INT, GREATEST_INT);
            } else {
                setSpan(x, (int) low, (int) high);
            }
        }

        boolean isOneNumber(int x) {
            return least[x] == greatest[x];
        }

        void narrow(int x, int low, int high) {
            setSpan(x, Math.max(least[x], low), Math.min(greatest[x], high));
            if (least[x] > greatest[x]) {
                isReached = false;
            }
        }

        void setReference(int r, long newSites, boolean newNull) {
            sites[r] = newSites;
            maybeNull[r] = newNull;
        }

        void narrowReference(int r, long left) {
            setReference(r, left, false);
            if (left == 0L) {
                isReached = false;
            }
        }

        boolean castFits(int lane, int y) {
            return least[y] >= leastOfLane(lane) && greatest[y] <= greatestOfLane(lane);
        }

        int castLeast(int lane, int y) {
            return castFits(lane, y) ? least[y] : leastOfLane(lane);
        }

        int castGreatest(int lane, int y) {
            return castFits(lane, y) ? greatest[y] : greatestOfLane(lane);
        }

        long withLane(long all, int lane) {
            long left = 0L;
            for (int i = 0; i < ACTS; i++) {
                if (isIn(all, i) && (lanes[i] >>> lane & 1) == 1) {
                    left |= 1L << i;
                }
            }
            return left;
        }

        int lanesOf(long all) {
            int found = 0;
            for (int i = 0; i < ACTS; i++) {
                if (isIn(all, i)) {
                    found |= lanes[i];
                }
            }
            return found;
        }

        int longestOf(long all) {
            int found = 0;
            for (int i = 0; i < ACTS; i++) {
                if (isIn(all, i)) {
                    found = Math.max(found, longest[i]);
                }
            }
            return found;
        }

        boolean someMayHaveFewer(long all, long wanted) {
            for (int i = 0; i < ACTS; i++) {
                if (isIn(all, i) && shortest[i] < wanted) {
                    return true;
                }
            }
            return false;
        }

        boolean areAlike(int i, int p, int q) {
            int one = i * PLACES + p;
            int other = i * PLACES + q;
            return leastAt[one] == leastAt[other] && greatestAt[one] == greatestAt[other];
        }

        boolean beginsSegment(int i, int p) {
            return p == 0 || !areAlike(i, p - 1, p);
        }

        int countSegments(int i) {
            int many = 0;
            for (int p = 0; p < longest[i]; p++) {
                if (beginsSegment(i, p)) {
                    many++;
                }
            }
            return many;
        }

        /** NONE, if there are not so many. */
        int firstOfSegment(int i, int k) {
            int ahead = 0;
            for (int p = 0; p < longest[i]; p++) {
                if (beginsSegment(i, p)) {
                    if (ahead == k) {
                        return p;
                    }
                    ahead++;
                }
            }
            return NONE;
        }

        int behindSegment(int i, int first) {
            int p = first + 1;
            while (p < longest[i] && !beginsSegment(i, p)) {
                p++;
            }
            return p;
        }

        boolean isSorted(int i) {
            for (int p = 1; p < longest[i]; p++) {
                if (greatestAt[i * PLACES + p - 1] > leastAt[i * PLACES + p]) {
                    return false;
                }
            }
            return true;
        }

        int countKnown() {
            int many = 0;
            for (int i = 0; i < ACTS; i++) {
                if (known[i]) {
                    many++;
                }
            }
            return many;
        }
    }

    /** FACTS on their way through the PROGRAM. */
    private static final class Flow {
        final Facts now = new Facts();
        /** Those ahead of the MAYBE whose ACTS are being gone through. */
        final Facts ahead = new Facts();
        /** The PROGRAM was changed since these FACTS went through it. */
        boolean isOld = true;
        final boolean[] isReached = new boolean[ACTS];
        final int[] mayThrow = new int[ACTS];
        private boolean gatheredAny = false;
        private int gatheredLeast = 0;
        private int gatheredGreatest = 0;

        void follow(Program program) {
            if (!isOld) {
                return;
            }
            isOld = false;
            now.begin();
            int left = 0;
            for (int i = 0; i < ACTS; i++) {
                boolean isThere = program.hasAct(i) && !program.dropped[i];
                isReached[i] = isThere && now.isReached;
                mayThrow[i] = 0;
                if (!isThere) {
                    continue;
                }
                if (left == 0 && program.kindOf(i) == MAYBE) {
                    ahead.takeOver(now);
                    left = program.b(i);
                    continue;
                }
                if (now.isReached) {
                    mayThrow[i] = pass(program, i);
                }
                if (left > 0) {
                    left--;
                    if (left == 0) {
                        now.joinWith(ahead);
                    }
                }
            }
            if (left > 0) {
                now.joinWith(ahead);
            }
        }

        int countReached() {
            int many = 0;
            for (int i = 0; i < ACTS; i++) {
                if (isReached[i]) {
                    many++;
                }
            }
            return many;
        }

        int countThrowing() {
            int many = 0;
            for (int i = 0; i < ACTS; i++) {
                if (mayThrow[i] != 0) {
                    many++;
                }
            }
            return many;
        }

        /** What ACT i does to the FACTS; answers what it MAY THROW. */
        private int pass(Program program, int i) {
            int a = program.a(i);
            int b = program.b(i);
            int c = program.c(i);
            int d = program.d(i);
            int e = program.e(i);
            switch (program.kindOf(i)) {
                case SET:
                    now.setSpan(a, b, b);
                    return 0;
                case INPUT:
                    now.setSpan(a, b, c);
                    return 0;
                case ADD:
                    now.setOutcome(a, (long) now.least[b] + now.least[c], (long) now.greatest[b] + now.greatest[c]);
                    return 0;
                case LESS:
                    now.setOutcome(a, (long) now.least[b] - now.greatest[c], (long) now.greatest[b] - now.least[c]);
                    return 0;
                case NEW:
                    return passNew(i, a, b, c);
                case NO_ARRAY:
                    now.setReference(a, 0L, true);
                    return 0;
                case SAME:
                    now.setReference(a, now.sites[b], now.maybeNull[b]);
                    return 0;
                case EITHER:
                    now.setReference(a, now.sites[b] | now.sites[c], now.maybeNull[b] || now.maybeNull[c]);
                    return 0;
                case CLONE:
                    return passClone(i, a, b);
                case WRITE:
                    return passWrite(a, b, c, d);
                case READ:
                    return passRead(a, b, c, d);
                case COPY:
                    return passCopy(a, b, c, d, e);
                case FILL:
                    return passFill(a, b, c, d, e);
                case LENGTH:
                    return passLength(a, b);
                default:
                    return 0;
            }
        }

        private int passNew(int site, int r, int lane, int x) {
            int may = bitIf(now.least[x] < 0, SIZE_THROW) | bitIf(now.greatest[x] > PLACES, ROOM_THROW);
            now.narrow(x, 0, PLACES);
            if (now.isReached) {
                now.makeArray(site, lane, now.least[x], now.greatest[x]);
                now.setReference(r, 1L << site, false);
            }
            return may;
        }

        private int passClone(int site, int r, int s) {
            int may = nullBit(s);
            now.narrowReference(s, now.sites[s]);
            if (now.isReached) {
                for (int j = 0; j < ACTS; j++) {
                    if (isIn(now.sites[s], j)) {
                        now.addArray(site, now, j);
                    }
                }
                now.setReference(r, 1L << site, false);
            }
            return may;
        }

        private int passLength(int x, int r) {
            int may = nullBit(r);
            now.narrowReference(r, now.sites[r]);
            if (now.isReached) {
                int fewest = PLACES;
                for (int i = 0; i < ACTS; i++) {
                    if (isIn(now.sites[r], i)) {
                        fewest = Math.min(fewest, now.shortest[i]);
                    }
                }
                now.setSpan(x, fewest, now.longestOf(now.sites[r]));
            }
            return may;
        }

        private int passWrite(int r, int lane, int x, int y) {
            int may = useThrows(r, lane, mayMiss(r, x));
            narrowPlace(r, lane, x);
            if (now.isReached) {
                long all = now.sites[r];
                boolean strong = Long.bitCount(all) == 1 && now.isOneNumber(x);
                int low = now.castLeast(lane, y);
                int high = now.castGreatest(lane, y);
                for (int i = 0; i < ACTS; i++) {
                    if (isIn(all, i)) {
                        long behind = Math.min(now.greatest[x] + 1L, now.longest[i]);
                        now.putSpan(i, now.least[x], behind, low, high, strong);
                    }
                }
            }
            return may;
        }

        private int passRead(int x, int r, int lane, int y) {
            int may = useThrows(r, lane, mayMiss(r, y));
            narrowPlace(r, lane, y);
            if (now.isReached) {
                gather(now.sites[r], now.least[y], now.greatest[y] + 1L);
                if (gatheredAny) {
                    now.setSpan(x, gatheredLeast, gatheredGreatest);
                }
            }
            return may;
        }

        private int passCopy(int r, int x, int s, int y, int z) {
            int may = copyThrows(r, x, s, y, z);
            now.narrowReference(r, now.sites[r]);
            now.narrowReference(s, now.sites[s]);
            now.narrow(x, 0, GREATEST_INT);
            now.narrow(y, 0, GREATEST_INT);
            now.narrow(z, 0, GREATEST_INT);
            if (now.isReached) {
                int from = firstSite(now.sites[r]);
                int to = firstSite(now.sites[s]);
                boolean oneEach = Long.bitCount(now.sites[r]) == 1 && Long.bitCount(now.sites[s]) == 1;
                if (oneEach && now.isOneNumber(x) && now.isOneNumber(y) && now.isOneNumber(z)) {
                    now.movePlaces(from, now.least[x], to, now.least[y], now.least[z]);
                } else {
                    joinCopy(r, x, s, y, z);
                }
            }
            return may;
        }

        private void joinCopy(int r, int x, int s, int y, int z) {
            if (now.greatest[z] == 0) {
                return;
            }
            gather(now.sites[r], now.least[x], (long) now.greatest[x] + now.greatest[z]);
            if (!gatheredAny) {
                return;
            }
            long most = (long) now.greatest[y] + now.greatest[z];
            for (int i = 0; i < ACTS; i++) {
                if (isIn(now.sites[s], i)) {
                    long behind = Math.min(most, now.longest[i]);
                    now.putSpan(i, now.least[y], behind, gatheredLeast, gatheredGreatest, false);
                }
            }
        }

        private int passFill(int r, int lane, int x, int y, int z) {
            if (now.least[x] >= now.greatest[y]) {
                return 0;
            }
            long all = now.sites[r];
            long taken = now.withLane(all, lane);
            boolean strong = Long.bitCount(all) == 1;
            int low = now.castLeast(lane, z);
            int high = now.castGreatest(lane, z);
            for (int i = 0; i < ACTS; i++) {
                if (isIn(taken, i)) {
                    now.putSpan(i, now.least[x], Math.min(now.greatest[y], now.longest[i]), low, high, false);
                    if (strong) {
                        now.putSpan(i, now.greatest[x], Math.min(now.least[y], now.longest[i]), low, high, true);
                    }
                }
            }
            boolean index = now.least[x] < 0 || now.someMayHaveFewer(all, now.greatest[y]);
            return useThrows(r, lane, index);
        }

        /** Whether some array of r may not have a place that x may be. */
        private boolean mayMiss(int r, int x) {
            return now.least[x] < 0 || now.someMayHaveFewer(now.sites[r], now.greatest[x] + 1L);
        }

        private int useThrows(int r, int lane, boolean index) {
            boolean cast = (now.lanesOf(now.sites[r]) & ~(1 << lane)) != 0;
            return nullBit(r) | bitIf(cast, CAST_THROW) | bitIf(index, INDEX_THROW);
        }

        private int copyThrows(int r, int x, int s, int y, int z) {
            int from = now.lanesOf(now.sites[r]);
            int to = now.lanesOf(now.sites[s]);
            boolean store = from != 0 && to != 0 && Integer.bitCount(from | to) > 1;
            boolean index = now.least[x] < 0 || now.least[y] < 0 || now.least[z] < 0
                    || now.someMayHaveFewer(now.sites[r], (long) now.greatest[x] + now.greatest[z])
                    || now.someMayHaveFewer(now.sites[s], (long) now.greatest[y] + now.greatest[z]);
            return nullBit(r) | nullBit(s) | bitIf(store, STORE_THROW) | bitIf(index, INDEX_THROW);
        }

        private void narrowPlace(int r, int lane, int x) {
            now.narrowReference(r, now.withLane(now.sites[r], lane));
            now.narrow(x, 0, now.longestOf(now.sites[r]) - 1);
        }

        /** JOINS the places from first up to below behind (and each greatest length) of all SITES. */
        private void gather(long all, int first, long behind) {
            gatheredAny = false;
            for (int i = 0; i < ACTS; i++) {
                if (!isIn(all, i)) {
                    continue;
                }
                for (int p = Math.max(first, 0); p < behind && p < now.longest[i]; p++) {
                    int low = now.leastAt[i * PLACES + p];
                    int high = now.greatestAt[i * PLACES + p];
                    gatheredLeast = gatheredAny ? Math.min(gatheredLeast, low) : low;
                    gatheredGreatest = gatheredAny ? Math.max(gatheredGreatest, high) : high;
                    gatheredAny = true;
                }
            }
        }

        private int nullBit(int r) {
            return bitIf(now.maybeNull[r], NULL_THROW);
        }

        private static int bitIf(boolean may, int thrown) {
            return may ? 1 << thrown : 0;
        }

        private static int firstSite(long all) {
            for (int i = 0; i < ACTS; i++) {
                if (isIn(all, i)) {
                    return i;
                }
            }
            return 0;
        }
    }

    /** The PROGRAM done for a seed, and what is left behind the latest RUN. */
    private static final class Machine {
        boolean hasRun = false;
        int thrown = 0;
        int thrownAt = NONE;
        final int[] values = new int[VARIABLES];
        /** The SITE of the array that a REFERENCE means, or NONE: each SITE makes one array at most. */
        final int[] meant = new int[REFERENCES];
        final int[] lanes = new int[ACTS];
        final int[] lengths = new int[ACTS];
        final int[] cells = new int[ACTS * PLACES];
        private long state = 0L;

        Machine() {
            forget();
        }

        void forget() {
            hasRun = false;
            thrown = 0;
            thrownAt = NONE;
            for (int x = 0; x < VARIABLES; x++) {
                values[x] = 0;
            }
            for (int r = 0; r < REFERENCES; r++) {
                meant[r] = NONE;
            }
        }

        void perform(Program program, long seed) {
            forget();
            hasRun = true;
            state = seed;
            int left = 0;
            boolean doing = true;
            for (int i = 0; i < program.count && thrown == 0; i++) {
                if (program.dropped[i]) {
                    continue;
                }
                if (left == 0 && program.kindOf(i) == MAYBE) {
                    left = program.b(i);
                    doing = drawIsEven();
                    continue;
                }
                if (left == 0 || doing) {
                    thrown = doAct(program, i);
                    thrownAt = thrown == 0 ? NONE : i;
                }
                left = Math.max(left - 1, 0);
            }
        }

        private long draw() {
            state += 0x9E3779B97F4A7C15L;
            long z = state;
            z = (z ^ z >>> 30) * 0xBF58476D1CE4E5B9L;
            z = (z ^ z >>> 27) * 0x94D049BB133111EBL;
            return z ^ z >>> 31;
        }

        private boolean drawIsEven() {
            return (draw() & 1L) == 0L;
        }

        private int drawFrom(int low, int high) {
            long many = (long) high - low + 1L;
            long drawn = draw() >>> 33;
            return many > 0L ? (int) (low + drawn % many) : low;
        }

        /** Does ACT i; answers its THROW, or 0. A MAYBE that comes here is one among another's ACTS. */
        private int doAct(Program program, int i) {
            int a = program.a(i);
            int b = program.b(i);
            int c = program.c(i);
            int d = program.d(i);
            int e = program.e(i);
            switch (program.kindOf(i)) {
                case SET:
                    values[a] = b;
                    return 0;
                case INPUT:
                    values[a] = drawFrom(b, c);
                    return 0;
                case ADD:
                    values[a] = values[b] + values[c];
                    return 0;
                case LESS:
                    values[a] = values[b] - values[c];
                    return 0;
                case NEW:
                    return doNew(i, a, b, values[c]);
                case NO_ARRAY:
                    meant[a] = NONE;
                    return 0;
                case SAME:
                    meant[a] = meant[b];
                    return 0;
                case EITHER:
                    meant[a] = drawIsEven() ? meant[b] : meant[c];
                    return 0;
                case CLONE:
                    return doClone(i, a, meant[b]);
                case WRITE:
                    return doWrite(meant[a], b, values[c], values[d]);
                case READ:
                    return doRead(a, meant[b], c, values[d]);
                case COPY:
                    return doCopy(meant[a], values[b], meant[c], values[d], values[e]);
                case FILL:
                    return doFill(meant[a], b, values[c], values[d], values[e]);
                case LENGTH:
                    return doLength(a, meant[b]);
                default:
                    return 0;
            }
        }

        private int doNew(int site, int r, int lane, int many) {
            if (many < 0) {
                return SIZE_THROW;
            }
            if (many > PLACES) {
                return ROOM_THROW;
            }
            lanes[site] = lane;
            lengths[site] = many;
            for (int p = 0; p < PLACES; p++) {
                cells[site * PLACES + p] = 0;
            }
            meant[r] = site;
            return 0;
        }

        private int doClone(int site, int r, int from) {
            if (from < 0) {
                return NULL_THROW;
            }
            lanes[site] = lanes[from];
            lengths[site] = lengths[from];
            System.arraycopy(cells, from * PLACES, cells, site * PLACES, PLACES);
            meant[r] = site;
            return 0;
        }

        private int doWrite(int array, int lane, int at, int number) {
            int problem = placeProblem(array, lane, at);
            if (problem == 0) {
                cells[array * PLACES + at] = castTo(lane, number);
            }
            return problem;
        }

        private int doRead(int x, int array, int lane, int at) {
            int problem = placeProblem(array, lane, at);
            if (problem == 0) {
                values[x] = cells[array * PLACES + at];
            }
            return problem;
        }

        private int doCopy(int from, int first, int to, int target, int many) {
            if (from < 0 || to < 0) {
                return NULL_THROW;
            }
            if (lanes[from] != lanes[to]) {
                return STORE_THROW;
            }
            if (first < 0 || target < 0 || many < 0) {
                return INDEX_THROW;
            }
            if ((long) first + many > lengths[from] || (long) target + many > lengths[to]) {
                return INDEX_THROW;
            }
            System.arraycopy(cells, from * PLACES + first, cells, to * PLACES + target, many);
            return 0;
        }

        /** Ends by itself: no array has a place PLACES, so a WRITE there would throw. */
        private int doFill(int array, int lane, int first, int behind, int number) {
            int problem = 0;
            for (int p = first; p < behind && problem == 0; p++) {
                problem = doWrite(array, lane, p, number);
            }
            return problem;
        }

        private int doLength(int x, int array) {
            if (array < 0) {
                return NULL_THROW;
            }
            values[x] = lengths[array];
            return 0;
        }

        private int placeProblem(int array, int lane, int at) {
            if (array < 0) {
                return NULL_THROW;
            }
            if (lanes[array] != lane) {
                return CAST_THROW;
            }
            return at < 0 || at >= lengths[array] ? INDEX_THROW : 0;
        }

        private static int castTo(int lane, int number) {
            if (lane == BYTE) {
                return (byte) number;
            }
            return lane == CHAR ? (char) number : number;
        }
    }
}
