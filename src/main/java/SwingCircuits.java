import java.util.NoSuchElementException;

/**
 * Circuits that swing by themselves: stores that fill and empty between two bars, and links by which
 * one's turning kicks, turns or sets another. All rows are made with the object and used again: no
 * call makes an object, but for the exception that of() throws.
 */
public final class SwingCircuits {
    public static final int NONE = -1;

    private static final int MOST_CELLS = 4;
    private static final int MOST_LINKS = 8;
    private static final int MOST_BAR = 50;
    private static final int MOST_RATE = 60;
    private static final int MOST_NTH = 9;
    private static final int MOST_KICK = 20;
    private static final int MOST_RUN = 500;
    private static final int MOST_KEPT = 500;
    private static final int MOST_RING = 300;
    private static final int MOST_STOCK = 10;
    private static final int MOST_MEASURED = 8;
    private static final int MOST_TRIED = 400;
    private static final int MOST_TERM = 1000000;

    private static final int TOP = 0;
    private static final int BOTTOM = 1;
    private static final int KICK = 0;
    private static final int TURN = 1;
    private static final int SET = 2;
    private static final int RISE = 0;
    private static final int FALL = 1;

    private static final int NO_RING = -2;
    private static final int RING_SPENT = -3;

    /** MOST_TERM is below two to this: a FRACTION that is not SPENT packs into twice so many bits. */
    private static final int TERM_BITS = 20;
    private static final long TERM_MASK = (1L << TERM_BITS) - 1;
    /** An EVENT's CELL and side take so many bits below its TIME. */
    private static final int TURN_BITS = 3;

    /** A row of the trail: a LEVEL for each CELL, then the marks, then the EVENT that led there. */
    private static final int TRAIL_MARKS = MOST_CELLS;
    private static final int TRAIL_EVENT = MOST_CELLS + 1;
    private static final int TRAIL_WIDTH = MOST_CELLS + 2;
    private static final int COUNT_BITS = 4;

    /** Where ringed() finds the TOPs of CELL 0 among its answers. */
    private static final int RINGED_TOPS = 4;
    private static final int RINGED_ANSWERS = RINGED_TOPS + MOST_CELLS;

    private final Circuit circuit = new Circuit();
    private Swing now = new Swing();
    private Swing trial = new Swing();
    private int happened = 0;
    private final int[] tops = new int[MOST_CELLS];
    private final int[] bottoms = new int[MOST_CELLS];
    private final long[] kept = new long[MOST_KEPT];

    private final long[] trail = new long[(MOST_RING + 1) * TRAIL_WIDTH];
    private final long[] ringAnswers = new long[RINGED_ANSWERS];
    private boolean ringFound = false;

    private final int[] stock = new int[MOST_STOCK];
    private int stocked = 0;
    private final int[] measuredNum = new int[MOST_MEASURED];
    private final int[] measuredDen = new int[MOST_MEASURED];
    private int measures = 0;
    private final int[] waysFound = new int[MOST_STOCK * MOST_STOCK];
    private final int[] faultsFound = new int[MOST_CELLS * 2 * MOST_STOCK];

    public SwingCircuits() {
    }

    public int cell(int low, int high, int rise, int fall) {
        boolean barsFit = low >= -MOST_BAR && low < high && high <= MOST_BAR;
        if (!barsFit || !isRate(rise) || !isRate(fall) || circuit.cells >= MOST_CELLS) {
            return NONE;
        }
        int number = circuit.cells;
        circuit.low[number] = low;
        circuit.high[number] = high;
        circuit.rise[number] = rise;
        circuit.fall[number] = fall;
        circuit.cells = number + 1;
        startAgain();
        return number;
    }

    public int link(int from, int at, int n, int to, int act, int k) {
        if (!isCell(from) || !isCell(to) || (at != TOP && at != BOTTOM) || n < 1 || n > MOST_NTH) {
            return NONE;
        }
        if (!isAct(act, k) || circuit.links >= MOST_LINKS) {
            return NONE;
        }
        int number = circuit.links;
        circuit.from[number] = from;
        circuit.at[number] = at;
        circuit.nth[number] = n;
        circuit.to[number] = to;
        circuit.act[number] = act;
        circuit.by[number] = k;
        circuit.links = number + 1;
        startAgain();
        return number;
    }

    public int clear() {
        int before = circuit.cells;
        circuit.cells = 0;
        circuit.links = 0;
        startAgain();
        return before;
    }

    public int reset() {
        int before = happened;
        startAgain();
        return before;
    }

    public int set(int cell, int what, int v) {
        if (!isCell(cell) || (what != RISE && what != FALL) || !isRate(v)) {
            return NONE;
        }
        int[] rates = circuit.ratesOf(what);
        int before = rates[cell];
        rates[cell] = v;
        startAgain();
        return before;
    }

    public int run(int n) {
        if (n < 0 || n > MOST_RUN) {
            return NONE;
        }
        for (int i = 0; i < n; i++) {
            trial.copyFrom(now);
            if (!trial.advance(circuit)) {
                return i;
            }
            Swing before = now;
            now = trial;
            trial = before;
            noteEvent();
        }
        return n;
    }

    public int count(int what) {
        switch (what) {
            case 0:
                return circuit.cells;
            case 1:
                return circuit.links;
            case 2:
                return happened;
            case 3:
                return (int) now.timeNum;
            case 4:
                return (int) now.timeDen;
            case 5:
                return isNextSpent() ? 1 : 0;
            case 6:
                return stocked;
            case 7:
                return measures;
            default:
                return NONE;
        }
    }

    public int of(int cell, int what) throws NoSuchElementException {
        if (!isCell(cell)) {
            throw new NoSuchElementException("no such cell");
        }
        switch (what) {
            case 0:
                return (int) now.num[cell];
            case 1:
                return (int) now.den[cell];
            case 2:
                return now.filling[cell] ? 1 : 0;
            case 3:
                return tops[cell];
            case 4:
                return bottoms[cell];
            case 5:
                return beatTerm(cell, true);
            case 6:
                return beatTerm(cell, false);
            default:
                throw new NoSuchElementException("a cell has no such number");
        }
    }

    public int counted(int link) {
        return link >= 0 && link < circuit.links ? now.counts[link] : NONE;
    }

    public int event(int i, int what) {
        if (!isKept(i) || i >= happened) {
            return NONE;
        }
        switch (what) {
            case 0:
                return turnedIn(kept[i]);
            case 1:
                return sideIn(kept[i]);
            case 2:
                return (int) timeNumIn(kept[i]);
            case 3:
                return (int) timeDenIn(kept[i]);
            default:
                return NONE;
        }
    }

    // ---- rings

    public int ring(int n) {
        if (n < 1 || n > MOST_RING || circuit.cells == 0) {
            return NONE;
        }
        trial.copyFrom(now);
        writeTrail(0);
        for (int j = 1; j <= n; j++) {
            if (!trial.advance(circuit)) {
                return RING_SPENT;
            }
            writeTrail(j);
            int i = sameAhead(j);
            if (i != NONE) {
                keepRing(i, j);
                return j - i;
            }
        }
        return NO_RING;
    }

    public long ringed(int what) {
        return ringFound && what >= 0 && what < RINGED_ANSWERS ? ringAnswers[what] : NONE;
    }

    // ---- parts

    public int drawer(int v) {
        if (!isRate(v) || isStocked(v) || stocked >= MOST_STOCK) {
            return NONE;
        }
        stock[stocked] = v;
        stocked++;
        return stocked;
    }

    public int parts(int cell, int n, int d) {
        return isCell(cell) && isTerm(n) && isTerm(d) ? findWays(cell, n, d) : NONE;
    }

    public int part(int cell, int n, int d, int i) {
        int found = parts(cell, n, d);
        return i >= 0 && i < found ? waysFound[i] : NONE;
    }

    public int measure(int n, int d) {
        if (!isTerm(n) || !isTerm(d) || measures >= MOST_MEASURED) {
            return NONE;
        }
        measuredNum[measures] = n;
        measuredDen[measures] = d;
        measures++;
        return measures;
    }

    public int forget() {
        int before = measures;
        measures = 0;
        return before;
    }

    public int faults(int cell) {
        return isCell(cell) ? findFaults(cell) : NONE;
    }

    public int fault(int cell, int i) {
        int found = isCell(cell) ? findFaults(cell) : 0;
        return i >= 0 && i < found ? faultsFound[i] : NONE;
    }

    public int fits(int cell) {
        if (!isCell(cell)) {
            return NONE;
        }
        return isMeasuredSo(cell) ? 1 : 0;
    }

    // ---- what may be told

    private boolean isCell(int number) {
        return number >= 0 && number < circuit.cells;
    }

    private static boolean isRate(int v) {
        return v >= 1 && v <= MOST_RATE;
    }

    private static boolean isTerm(int v) {
        return v >= 1 && v <= MOST_TERM;
    }

    private static boolean isAct(int act, int k) {
        switch (act) {
            case KICK:
                return k >= -MOST_KICK && k <= MOST_KICK;
            case TURN:
                return true;
            case SET:
                return k == 0 || k == 1;
            default:
                return false;
        }
    }

    private boolean isStocked(int v) {
        for (int i = 0; i < stocked; i++) {
            if (stock[i] == v) {
                return true;
            }
        }
        return false;
    }

    // ---- swinging

    private void startAgain() {
        now.restart(circuit);
        happened = 0;
        for (int i = 0; i < MOST_CELLS; i++) {
            tops[i] = 0;
            bottoms[i] = 0;
        }
    }

    /** Whether the EVENT of this number has a place; the lower end is for counts that went round an int. */
    private static boolean isKept(int i) {
        return i >= 0 && i < MOST_KEPT;
    }

    private void noteEvent() {
        if (isKept(happened)) {
            kept[happened] = now.packedEvent();
        }
        happened++;
        if (now.side == TOP) {
            tops[now.turned]++;
        } else {
            bottoms[now.turned]++;
        }
    }

    private boolean isNextSpent() {
        if (circuit.cells == 0) {
            return false;
        }
        trial.copyFrom(now);
        return !trial.advance(circuit);
    }

    // ---- rings of events

    private void writeTrail(int row) {
        int start = row * TRAIL_WIDTH;
        for (int i = 0; i < MOST_CELLS; i++) {
            trail[start + i] = packed(trial.num[i], trial.den[i]);
        }
        trail[start + TRAIL_MARKS] = trial.packedMarks();
        trail[start + TRAIL_EVENT] = trial.packedEvent();
    }

    /** The row ahead of this one with the same STATE, or NONE. */
    private int sameAhead(int row) {
        for (int i = 0; i < row; i++) {
            if (isSameState(i * TRAIL_WIDTH, row * TRAIL_WIDTH)) {
                return i;
            }
        }
        return NONE;
    }

    private boolean isSameState(int oneStart, int otherStart) {
        for (int i = 0; i <= TRAIL_MARKS; i++) {
            if (trail[oneStart + i] != trail[otherStart + i]) {
                return false;
            }
        }
        return true;
    }

    private void keepRing(int first, int last) {
        long num = betweenNum(eventInRow(first), eventInRow(last));
        long den = betweenDen(eventInRow(first), eventInRow(last));
        long common = commonOf(num, den);
        ringAnswers[0] = first;
        ringAnswers[1] = last - first;
        ringAnswers[2] = num / common;
        ringAnswers[3] = den / common;
        for (int i = 0; i < MOST_CELLS; i++) {
            ringAnswers[RINGED_TOPS + i] = 0;
        }
        for (int row = first + 1; row <= last; row++) {
            if (sideIn(eventInRow(row)) == TOP) {
                ringAnswers[RINGED_TOPS + turnedIn(eventInRow(row))]++;
            }
        }
        ringFound = true;
    }

    private long eventInRow(int row) {
        return trail[row * TRAIL_WIDTH + TRAIL_EVENT];
    }

    // ---- parts and faults

    /** The numerator, or else the denominator, of a CELL's BEAT. */
    private int beatTerm(int cell, boolean upper) {
        int rise = circuit.rise[cell];
        int fall = circuit.fall[cell];
        int num = circuit.span(cell) * (rise + fall);
        int den = rise * fall;
        return (upper ? num : den) / (int) commonOf(num, den);
    }

    private int findWays(int cell, long n, long d) {
        int found = 0;
        for (int r = 0; r < stocked; r++) {
            for (int f = 0; f < stocked; f++) {
                int num = circuit.span(cell) * (stock[r] + stock[f]);
                int den = stock[r] * stock[f];
                if (num * d == n * den) {
                    waysFound[found] = stock[r] * 100 + stock[f];
                    found++;
                }
            }
        }
        return found;
    }

    private int findFaults(int cell) {
        int found = 0;
        for (int wrong = 0; wrong < circuit.cells; wrong++) {
            for (int what = RISE; what <= FALL; what++) {
                int[] rates = circuit.ratesOf(what);
                int told = rates[wrong];
                for (int i = 0; i < stocked; i++) {
                    rates[wrong] = stock[i];
                    if (stock[i] != told && isMeasuredSo(cell)) {
                        faultsFound[found] = wrong * 1000 + what * 100 + stock[i];
                        found++;
                    }
                }
                rates[wrong] = told;
            }
        }
        return found;
    }

    /** Whether the circuit, as its rates are at the moment, swings from RESET on as was MEASURED. */
    private boolean isMeasuredSo(int cell) {
        if (measures == 0) {
            return true;
        }
        trial.restart(circuit);
        int seen = 0;
        long latest = 0;
        for (int i = 0; i < MOST_TRIED; i++) {
            if (!trial.advance(circuit)) {
                return false;
            }
            if (trial.turned == cell && trial.side == TOP) {
                long top = trial.packedEvent();
                if (seen > 0 && !isMeasure(seen - 1, latest, top)) {
                    return false;
                }
                if (seen == measures) {
                    return true;
                }
                seen++;
                latest = top;
            }
        }
        return false;
    }

    private boolean isMeasure(int i, long from, long until) {
        return betweenNum(from, until) * measuredDen[i] == measuredNum[i] * betweenDen(from, until);
    }

    // ---- fractions and packed events

    /** The greatest common divisor; 1 of two zeros, so that it always divides. */
    private static long commonOf(long one, long other) {
        long a = one < 0 ? -one : one;
        long b = other < 0 ? -other : other;
        // Euclid needs at most some 90 rounds for longs.
        for (int i = 0; i < 200 && b != 0; i++) {
            long rest = a % b;
            a = b;
            b = rest;
        }
        return a > 0 ? a : 1;
    }

    private static long packed(long num, long den) {
        return (num << TERM_BITS) + den;
    }

    private static int turnedIn(long event) {
        return (int) (event >> 1) & (MOST_CELLS - 1);
    }

    private static int sideIn(long event) {
        return (int) event & 1;
    }

    private static long timeNumIn(long event) {
        return event >> (TURN_BITS + TERM_BITS);
    }

    private static long timeDenIn(long event) {
        return (event >> TURN_BITS) & TERM_MASK;
    }

    /** How much TIME goes between two events: its numerator, not lowered yet. */
    private static long betweenNum(long from, long until) {
        return timeNumIn(until) * timeDenIn(from) - timeNumIn(from) * timeDenIn(until);
    }

    private static long betweenDen(long from, long until) {
        return timeDenIn(until) * timeDenIn(from);
    }

    /** What was told: the CELLS with their bars and rates, and the LINKS between them. */
    private static final class Circuit {
        int cells = 0;
        final int[] low = new int[MOST_CELLS];
        final int[] high = new int[MOST_CELLS];
        final int[] rise = new int[MOST_CELLS];
        final int[] fall = new int[MOST_CELLS];
        int links = 0;
        final int[] from = new int[MOST_LINKS];
        final int[] at = new int[MOST_LINKS];
        final int[] nth = new int[MOST_LINKS];
        final int[] to = new int[MOST_LINKS];
        final int[] act = new int[MOST_LINKS];
        final int[] by = new int[MOST_LINKS];

        int[] ratesOf(int what) {
            return what == RISE ? rise : fall;
        }

        int span(int cell) {
            return high[cell] - low[cell];
        }
    }

    /**
     * A moment of a circuit: TIME, LEVELS, counts, and the latest turning. Outside advance() no term
     * is above MOST_TERM, so that no product within it comes near the end of a long.
     */
    private static final class Swing {
        long timeNum = 0;
        long timeDen = 1;
        final long[] num = new long[MOST_CELLS];
        final long[] den = new long[MOST_CELLS];
        final boolean[] filling = new boolean[MOST_CELLS];
        final int[] counts = new int[MOST_LINKS];
        int turned = 0;
        int side = TOP;
        private long waitNum = 0;
        private long waitDen = 1;

        void restart(Circuit circuit) {
            timeNum = 0;
            timeDen = 1;
            for (int i = 0; i < MOST_CELLS; i++) {
                num[i] = circuit.low[i];
                den[i] = 1;
                filling[i] = true;
            }
            for (int i = 0; i < MOST_LINKS; i++) {
                counts[i] = 0;
            }
        }

        void copyFrom(Swing other) {
            timeNum = other.timeNum;
            timeDen = other.timeDen;
            for (int i = 0; i < MOST_CELLS; i++) {
                num[i] = other.num[i];
                den[i] = other.den[i];
                filling[i] = other.filling[i];
            }
            for (int i = 0; i < MOST_LINKS; i++) {
                counts[i] = other.counts[i];
            }
        }

        /** An EVENT. False: there is none, as it is SPENT or no CELL is there; then this moment is void. */
        boolean advance(Circuit circuit) {
            if (circuit.cells == 0) {
                return false;
            }
            chooseTurning(circuit);
            letTimePass(circuit);
            side = filling[turned] ? TOP : BOTTOM;
            filling[turned] = side == BOTTOM;
            passOn(circuit);
            return !isSpent(circuit);
        }

        private void chooseTurning(Circuit circuit) {
            for (int i = 0; i < circuit.cells; i++) {
                long way = filling[i] ? circuit.high[i] * den[i] - num[i] : num[i] - circuit.low[i] * den[i];
                long speed = den[i] * (filling[i] ? circuit.rise[i] : circuit.fall[i]);
                if (i == 0 || way * waitDen < waitNum * speed) {
                    turned = i;
                    waitNum = way;
                    waitDen = speed;
                }
            }
        }

        private void letTimePass(Circuit circuit) {
            long newNum = timeNum * waitDen + waitNum * timeDen;
            long newDen = timeDen * waitDen;
            long common = commonOf(newNum, newDen);
            timeNum = newNum / common;
            timeDen = newDen / common;
            for (int i = 0; i < circuit.cells; i++) {
                long rate = filling[i] ? circuit.rise[i] : -circuit.fall[i];
                newNum = num[i] * waitDen + rate * waitNum * den[i];
                newDen = den[i] * waitDen;
                common = commonOf(newNum, newDen);
                num[i] = newNum / common;
                den[i] = newDen / common;
            }
        }

        private void passOn(Circuit circuit) {
            for (int i = 0; i < circuit.links; i++) {
                if (circuit.from[i] == turned && circuit.at[i] == side) {
                    counts[i]++;
                    if (counts[i] == circuit.nth[i]) {
                        counts[i] = 0;
                        doAct(circuit, i);
                    }
                }
            }
        }

        private void doAct(Circuit circuit, int link) {
            int to = circuit.to[link];
            switch (circuit.act[link]) {
                case KICK:
                    num[to] += circuit.by[link] * den[to];
                    keepBetweenBars(circuit, to);
                    break;
                case TURN:
                    filling[to] = !filling[to];
                    break;
                default:
                    filling[to] = circuit.by[link] == 0;
                    break;
            }
        }

        private void keepBetweenBars(Circuit circuit, int cell) {
            if (num[cell] > circuit.high[cell] * den[cell]) {
                num[cell] = circuit.high[cell];
                den[cell] = 1;
            } else if (num[cell] < circuit.low[cell] * den[cell]) {
                num[cell] = circuit.low[cell];
                den[cell] = 1;
            }
        }

        private boolean isSpent(Circuit circuit) {
            if (isTooLong(timeNum, timeDen)) {
                return true;
            }
            for (int i = 0; i < circuit.cells; i++) {
                if (isTooLong(num[i], den[i])) {
                    return true;
                }
            }
            return false;
        }

        private static boolean isTooLong(long num, long den) {
            return num > MOST_TERM || num < -MOST_TERM || den > MOST_TERM;
        }

        long packedEvent() {
            return (packed(timeNum, timeDen) << TURN_BITS) + turned * 2 + side;
        }

        /** What of the STATE is no LEVEL: a bit for each CELL, COUNT_BITS for each LINK. */
        long packedMarks() {
            long marks = 0;
            for (int i = 0; i < MOST_CELLS; i++) {
                marks = marks * 2 + (filling[i] ? 1 : 0);
            }
            for (int i = 0; i < MOST_LINKS; i++) {
                marks = (marks << COUNT_BITS) + counts[i];
            }
            return marks;
        }
    }
}
