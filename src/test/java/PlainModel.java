import java.math.BigInteger;
import java.util.ArrayList;
import java.util.List;

/**
 * The document once more, written for nothing but to be compared with: fractions without a bound, lists
 * that grow, and a new copy of everything wherever the document says that nothing changes.
 */
final class PlainModel {
    static final long NO_SUCH_ELEMENT = Long.MIN_VALUE;
    private static final BigInteger MILLION = BigInteger.valueOf(1000000);

    record Fraction(BigInteger n, BigInteger d) implements Comparable<Fraction> {
        static Fraction of(BigInteger n, BigInteger d) {
            BigInteger g = n.gcd(d);
            return d.signum() < 0 ? new Fraction(n.negate().divide(g), d.negate().divide(g))
                    : new Fraction(n.divide(g), d.divide(g));
        }

        static Fraction of(long n, long d) {
            return of(BigInteger.valueOf(n), BigInteger.valueOf(d));
        }

        Fraction plus(Fraction o) {
            return of(n.multiply(o.d).add(o.n.multiply(d)), d.multiply(o.d));
        }

        Fraction minus(Fraction o) {
            return plus(new Fraction(o.n.negate(), o.d));
        }

        Fraction times(long k) {
            return of(n.multiply(BigInteger.valueOf(k)), d);
        }

        Fraction by(long k) {
            return of(n, d.multiply(BigInteger.valueOf(k)));
        }

        public int compareTo(Fraction o) {
            return n.multiply(o.d).compareTo(o.n.multiply(d));
        }

        boolean tooLong() {
            return n.abs().compareTo(MILLION) > 0 || d.compareTo(MILLION) > 0;
        }
    }

    record Happening(int cell, int side, Fraction time) {
    }

    record Link(int from, int at, int n, int to, int act, int k) {
    }

    /** Levels, fillings and counts: what a STATE is, so that two of them are equal as records are. */
    record State(List<Fraction> levels, List<Boolean> filling, List<Integer> counts) {
        State copy() {
            return new State(new ArrayList<>(levels), new ArrayList<>(filling), new ArrayList<>(counts));
        }
    }

    private final List<int[]> cells = new ArrayList<>();
    private final List<Link> links = new ArrayList<>();
    private final List<Integer> drawer = new ArrayList<>();
    private final List<Fraction> measured = new ArrayList<>();
    private final List<Happening> events = new ArrayList<>();
    private State state = new State(new ArrayList<>(), new ArrayList<>(), new ArrayList<>());
    private Fraction time = Fraction.of(0, 1);
    private long[] ringed = null;

    private static boolean in(long v, long least, long most) {
        return least <= v && v <= most;
    }

    private boolean isCell(int c) {
        return in(c, 0, cells.size() - 1);
    }

    int cell(int low, int high, int rise, int fall) {
        if (!in(low, -50, 50) || !in(high, -50, 50) || low >= high || !in(rise, 1, 60) || !in(fall, 1, 60)
                || cells.size() == 4) {
            return -1;
        }
        cells.add(new int[] {low, high, rise, fall});
        reset();
        return cells.size() - 1;
    }

    int link(int from, int at, int n, int to, int act, int k) {
        boolean actFits = act == 0 && in(k, -20, 20) || act == 1 || act == 2 && in(k, 0, 1);
        if (!isCell(from) || !isCell(to) || !in(at, 0, 1) || !in(n, 1, 9) || !actFits || links.size() == 8) {
            return -1;
        }
        links.add(new Link(from, at, n, to, act, k));
        reset();
        return links.size() - 1;
    }

    int clear() {
        int were = cells.size();
        cells.clear();
        links.clear();
        reset();
        return were;
    }

    int reset() {
        int were = events.size();
        events.clear();
        time = Fraction.of(0, 1);
        state = new State(new ArrayList<>(), new ArrayList<>(), new ArrayList<>());
        for (int[] c : cells) {
            state.levels.add(Fraction.of(c[0], 1));
            state.filling.add(true);
        }
        for (int i = 0; i < links.size(); i++) {
            state.counts.add(0);
        }
        return were;
    }

    int set(int cell, int what, int v) {
        if (!isCell(cell) || !in(what, 0, 1) || !in(v, 1, 60)) {
            return -1;
        }
        int was = cells.get(cell)[2 + what];
        cells.get(cell)[2 + what] = v;
        reset();
        return was;
    }

    private Fraction waitOf(int c) {
        int[] told = cells.get(c);
        Fraction level = state.levels.get(c);
        return state.filling.get(c) ? Fraction.of(told[1], 1).minus(level).by(told[2])
                : level.minus(Fraction.of(told[0], 1)).by(told[3]);
    }

    /** One EVENT, or false and nothing changed. */
    private boolean goOn() {
        if (cells.isEmpty()) {
            return false;
        }
        State before = state.copy();
        Fraction timeBefore = time;
        int who = 0;
        for (int c = 1; c < cells.size(); c++) {
            if (waitOf(c).compareTo(waitOf(who)) < 0) {
                who = c;
            }
        }
        Fraction wait = waitOf(who);
        time = time.plus(wait);
        for (int c = 0; c < cells.size(); c++) {
            int rate = state.filling.get(c) ? cells.get(c)[2] : -cells.get(c)[3];
            state.levels.set(c, state.levels.get(c).plus(wait.times(rate)));
        }
        int side = state.filling.get(who) ? 0 : 1;
        state.filling.set(who, side == 1);
        for (int i = 0; i < links.size(); i++) {
            Link l = links.get(i);
            if (l.from == who && l.at == side) {
                int count = state.counts.get(i) + 1;
                state.counts.set(i, count == l.n ? 0 : count);
                if (count == l.n) {
                    act(l);
                }
            }
        }
        boolean spent = time.tooLong();
        for (Fraction level : state.levels) {
            spent |= level.tooLong();
        }
        if (spent) {
            state = before;
            time = timeBefore;
            return false;
        }
        events.add(new Happening(who, side, time));
        return true;
    }

    private void act(Link l) {
        if (l.act == 0) {
            Fraction level = state.levels.get(l.to).plus(Fraction.of(l.k, 1));
            Fraction high = Fraction.of(cells.get(l.to)[1], 1);
            Fraction low = Fraction.of(cells.get(l.to)[0], 1);
            level = level.compareTo(high) > 0 ? high : level.compareTo(low) < 0 ? low : level;
            state.levels.set(l.to, level);
        } else if (l.act == 1) {
            state.filling.set(l.to, !state.filling.get(l.to));
        } else {
            state.filling.set(l.to, l.k == 0);
        }
    }

    /** The same circuit, from this moment on, but without its past, drawer, measures and rings. */
    private PlainModel copy() {
        PlainModel m = new PlainModel();
        for (int[] c : cells) {
            m.cells.add(c.clone());
        }
        m.links.addAll(links);
        m.state = state.copy();
        m.time = time;
        return m;
    }

    int run(int n) {
        if (!in(n, 0, 500)) {
            return -1;
        }
        int done = 0;
        while (done < n && goOn()) {
            done++;
        }
        return done;
    }

    int count(int what) {
        return switch (what) {
            case 0 -> cells.size();
            case 1 -> links.size();
            case 2 -> events.size();
            case 3 -> time.n.intValueExact();
            case 4 -> time.d.intValueExact();
            case 5 -> cells.isEmpty() || copy().goOn() ? 0 : 1;
            case 6 -> drawer.size();
            case 7 -> measured.size();
            default -> -1;
        };
    }

    private int turns(int cell, int side) {
        int n = 0;
        for (Happening h : events) {
            if (h.cell == cell && h.side == side) {
                n++;
            }
        }
        return n;
    }

    private static Fraction beat(int[] told, int rise, int fall) {
        return Fraction.of(told[1] - told[0], rise).plus(Fraction.of(told[1] - told[0], fall));
    }

    long of(int cell, int what) {
        if (!isCell(cell) || !in(what, 0, 6)) {
            return NO_SUCH_ELEMENT;
        }
        int[] told = cells.get(cell);
        Fraction beat = beat(told, told[2], told[3]);
        return switch (what) {
            case 0 -> state.levels.get(cell).n.longValueExact();
            case 1 -> state.levels.get(cell).d.longValueExact();
            case 2 -> state.filling.get(cell) ? 1 : 0;
            case 3 -> turns(cell, 0);
            case 4 -> turns(cell, 1);
            case 5 -> beat.n.longValueExact();
            default -> beat.d.longValueExact();
        };
    }

    int counted(int link) {
        return in(link, 0, links.size() - 1) ? state.counts.get(link) : -1;
    }

    int event(int i, int what) {
        if (!in(i, 0, Math.min(500, events.size()) - 1)) {
            return -1;
        }
        Happening h = events.get(i);
        return switch (what) {
            case 0 -> h.cell;
            case 1 -> h.side;
            case 2 -> h.time.n.intValueExact();
            case 3 -> h.time.d.intValueExact();
            default -> -1;
        };
    }

    int ring(int n) {
        if (!in(n, 1, 300) || cells.isEmpty()) {
            return -1;
        }
        PlainModel m = copy();
        List<State> states = new ArrayList<>();
        List<Fraction> times = new ArrayList<>();
        states.add(m.state.copy());
        times.add(m.time);
        for (int j = 1; j <= n; j++) {
            if (!m.goOn()) {
                return -3;
            }
            int i = states.indexOf(m.state);
            if (i >= 0) {
                Fraction between = m.time.minus(times.get(i));
                ringed = new long[] {i, j - i, between.n.longValueExact(), between.d.longValueExact(), 0, 0, 0, 0};
                for (Happening h : m.events.subList(i, j)) {
                    ringed[4 + h.cell] += h.side == 0 ? 1 : 0;
                }
                return j - i;
            }
            states.add(m.state.copy());
            times.add(m.time);
        }
        return -2;
    }

    long ringed(int what) {
        return ringed != null && in(what, 0, 7) ? ringed[what] : -1;
    }

    int drawer(int v) {
        if (!in(v, 1, 60) || drawer.contains(v) || drawer.size() == 10) {
            return -1;
        }
        drawer.add(v);
        return drawer.size();
    }

    /** The ways in their order, or null where the call is refused. */
    private List<Integer> ways(int cell, int n, int d) {
        if (!isCell(cell) || !in(n, 1, 1000000) || !in(d, 1, 1000000)) {
            return null;
        }
        List<Integer> found = new ArrayList<>();
        for (int rise : drawer) {
            for (int fall : drawer) {
                if (beat(cells.get(cell), rise, fall).equals(Fraction.of(n, d))) {
                    found.add(rise * 100 + fall);
                }
            }
        }
        return found;
    }

    int parts(int cell, int n, int d) {
        List<Integer> ways = ways(cell, n, d);
        return ways == null ? -1 : ways.size();
    }

    int part(int cell, int n, int d, int i) {
        List<Integer> ways = ways(cell, n, d);
        return ways != null && in(i, 0, ways.size() - 1) ? ways.get(i) : -1;
    }

    int measure(int n, int d) {
        if (!in(n, 1, 1000000) || !in(d, 1, 1000000) || measured.size() == 8) {
            return -1;
        }
        measured.add(Fraction.of(n, d));
        return measured.size();
    }

    int forget() {
        int were = measured.size();
        measured.clear();
        return were;
    }

    /** The first times between the TOPs of a CELL within 400 EVENTS behind RESET, one more than is measured. */
    List<Fraction> gaps(int cell) {
        PlainModel m = copy();
        m.reset();
        List<Fraction> gaps = new ArrayList<>();
        Fraction latest = null;
        for (int i = 0; i < 400 && gaps.size() < 9 && m.goOn(); i++) {
            Happening h = m.events.get(i);
            if (h.cell == cell && h.side == 0) {
                if (latest != null) {
                    gaps.add(h.time.minus(latest));
                }
                latest = h.time;
            }
        }
        return gaps;
    }

    private boolean isSo(List<Fraction> gaps) {
        return gaps.size() >= measured.size() && gaps.subList(0, measured.size()).equals(measured);
    }

    /** The codes of all FAULTS that explain what is MEASURED at a CELL; null: no such CELL. */
    List<Integer> explaining(int cell) {
        if (!isCell(cell)) {
            return null;
        }
        List<Integer> found = new ArrayList<>();
        for (int c = 0; c < cells.size(); c++) {
            for (int what = 0; what < 2; what++) {
                for (int v : drawer) {
                    PlainModel m = copy();
                    if (m.set(c, what, v) != v && isSo(m.gaps(cell))) {
                        found.add(c * 1000 + what * 100 + v);
                    }
                }
            }
        }
        return found;
    }

    int fits(int cell) {
        if (!isCell(cell)) {
            return -1;
        }
        return isSo(gaps(cell)) ? 1 : 0;
    }

    int cells() {
        return cells.size();
    }

    /** The gaps of a cell with one rate changed; this model itself stays as it is. */
    List<Fraction> gapsWith(int wrong, int what, int v, int cell) {
        PlainModel m = copy();
        m.set(wrong, what, v);
        return m.gaps(cell);
    }

    int stocked(int i) {
        return drawer.get(i);
    }
}
