import java.util.List;
import java.util.NoSuchElementException;
import java.util.Random;

/** Long runs of calls, made from fixed seeds, on the class and on PlainModel: every answer is the same. */
public final class ModelTest {
    private static final int RUNS = 300;
    private static final int[] CALM_RATES = {1, 2, 3, 4, 5, 6, 10, 12, 15, 20, 30, 60};

    private final Checks checks = new Checks();
    private final SwingCircuits real = new SwingCircuits();
    private final PlainModel model = new PlainModel();
    private final Random random;
    private final boolean calm;
    private final String name;

    private ModelTest(long seed) {
        random = new Random(seed);
        calm = seed % 3 != 0;
        name = "seed " + seed + ": ";
    }

    public static void main(String[] args) {
        for (long seed = 1; seed <= RUNS; seed++) {
            ModelTest test = new ModelTest(seed);
            test.runOfCalls();
            test.finishQuietly();
        }
        System.out.println("ModelTest: " + RUNS + " runs are as the plain model says");
    }

    private void finishQuietly() {
        if (checks.wrongs() != 0) {
            checks.finish(name);
        }
    }

    private int between(int least, int most) {
        return least + random.nextInt(most - least + 1);
    }

    private int rate() {
        if (random.nextInt(20) == 0) {
            return between(-1, 62);
        }
        return calm ? CALM_RATES[random.nextInt(CALM_RATES.length)] : between(1, 60);
    }

    private int bar() {
        return random.nextInt(4) == 0 ? between(-52, 52) : between(-9, 12);
    }

    private int someCell() {
        return random.nextInt(12) == 0 ? between(-2, 5) : random.nextInt(Math.max(1, model.cells()));
    }

    private void runOfCalls() {
        int cells = between(0, 4);
        for (int i = 0; i < cells; i++) {
            callCell();
        }
        int links = between(0, 8);
        for (int i = 0; i < links; i++) {
            callLink();
        }
        int stock = between(0, 10);
        for (int i = 0; i < stock; i++) {
            callDrawer();
        }
        int calls = between(20, 80);
        for (int i = 0; i < calls && checks.wrongs() == 0; i++) {
            callSomething();
        }
        if (checks.wrongs() == 0) {
            lookAtAll();
        }
    }

    private void callSomething() {
        switch (random.nextInt(26)) {
            case 0 -> callCell();
            case 1 -> callLink();
            case 2, 3 -> callDrawer();
            case 4, 5 -> callSet();
            case 6, 7, 8 -> callRun();
            case 9, 10, 11 -> callRing();
            case 12 -> due("reset()", real.reset(), model.reset());
            case 13 -> callClear();
            case 14, 15 -> callParts();
            case 16, 17 -> callMeasure();
            case 18 -> due("forget()", real.forget(), model.forget());
            case 19, 20, 21 -> measureTruly();
            case 22, 23 -> lookAtFaults(someCell());
            default -> lookAtAll();
        }
    }

    private void due(String call, long got, long want) {
        checks.due(name + call, got, want);
    }

    private void callClear() {
        if (random.nextInt(4) == 0) {
            due("clear()", real.clear(), model.clear());
        }
    }

    private void callCell() {
        int a = bar();
        int b = bar();
        boolean asTold = random.nextInt(10) == 0;
        int low = asTold ? a : Math.min(a, b);
        int high = asTold ? b : Math.max(a, b);
        int rise = rate();
        int fall = rate();
        due("cell(" + low + ", " + high + ", " + rise + ", " + fall + ")", real.cell(low, high, rise, fall),
                model.cell(low, high, rise, fall));
    }

    private void callLink() {
        int from = someCell();
        int at = random.nextInt(15) == 0 ? between(-1, 2) : between(0, 1);
        int n = random.nextInt(3) == 0 ? between(0, 10) : between(1, 3);
        int to = someCell();
        int act = random.nextInt(15) == 0 ? between(-1, 3) : between(0, 2);
        int k = act == 2 ? between(-1, 2) : act == 1 ? random.nextInt() : between(-22, 22);
        due("link(" + from + ", " + at + ", " + n + ", " + to + ", " + act + ", " + k + ")",
                real.link(from, at, n, to, act, k), model.link(from, at, n, to, act, k));
    }

    private void callDrawer() {
        int v = rate();
        due("drawer(" + v + ")", real.drawer(v), model.drawer(v));
    }

    private void callSet() {
        int cell = someCell();
        int what = between(0, 1) + (random.nextInt(10) == 0 ? between(-1, 1) : 0);
        int v = rate();
        due("set(" + cell + ", " + what + ", " + v + ")", real.set(cell, what, v), model.set(cell, what, v));
    }

    private void callRun() {
        int n = random.nextInt(4) == 0 ? between(-2, 502) : between(0, 12);
        due("run(" + n + ")", real.run(n), model.run(n));
    }

    private void callRing() {
        int n = random.nextInt(3) == 0 ? between(-1, 20) : between(20, 302);
        due("ring(" + n + ")", real.ring(n), model.ring(n));
        for (int what = -1; what <= 8; what++) {
            due("ringed(" + what + ")", real.ringed(what), model.ringed(what));
        }
    }

    private void callParts() {
        int cell = someCell();
        int n = between(0, 30);
        int d = between(0, 12);
        if (random.nextInt(2) == 0 && cell >= 0 && cell < model.cells()) {
            int k = between(1, 3);
            n = (int) model.of(cell, 5) * k;
            d = (int) model.of(cell, 6) * k;
        }
        due("parts(" + cell + ", " + n + ", " + d + ")", real.parts(cell, n, d), model.parts(cell, n, d));
        for (int i = -1; i <= Math.max(0, model.parts(cell, n, d)); i++) {
            due("part(" + cell + ", " + n + ", " + d + ", " + i + ")", real.part(cell, n, d, i),
                    model.part(cell, n, d, i));
        }
    }

    private void callMeasure() {
        int n = random.nextInt(5) == 0 ? between(-1, 1000002) : between(1, 20);
        int d = random.nextInt(5) == 0 ? between(-1, 1000002) : between(1, 6);
        due("measure(" + n + ", " + d + ")", real.measure(n, d), model.measure(n, d));
    }

    /** Measures what one FAULT makes so, that there is something to explain. */
    private void measureTruly() {
        if (model.cells() == 0 || model.count(6) == 0) {
            return;
        }
        due("forget()", real.forget(), model.forget());
        int cell = random.nextInt(model.cells());
        int wrong = random.nextInt(model.cells());
        int v = model.stocked(random.nextInt(model.count(6)));
        List<PlainModel.Fraction> gaps = random.nextInt(4) == 0 ? model.gaps(cell)
                : model.gapsWith(wrong, between(0, 1), v, cell);
        int many = between(1, 9);
        for (int i = 0; i < many && i < gaps.size(); i++) {
            PlainModel.Fraction gap = gaps.get(i);
            if (gap.n().bitLength() < 18 && gap.d().bitLength() < 18) {
                int n = gap.n().intValueExact() * 2;
                int d = gap.d().intValueExact() * 2;
                due("measure(" + n + ", " + d + ")", real.measure(n, d), model.measure(n, d));
            }
        }
        lookAtFaults(cell);
    }

    private void lookAtFaults(int cell) {
        List<Integer> found = model.explaining(cell);
        int many = found == null ? -1 : found.size();
        due("faults(" + cell + ")", real.faults(cell), many);
        due("fits(" + cell + ")", real.fits(cell), model.fits(cell));
        due("fault(" + cell + ", -1)", real.fault(cell, -1), -1);
        due("fault(" + cell + ", " + many + ")", real.fault(cell, many), -1);
        for (int i = 0; i < many; i += between(1, 4)) {
            due("fault(" + cell + ", " + i + ")", real.fault(cell, i), found.get(i));
        }
    }

    private void lookAtAll() {
        for (int what = -1; what <= 8; what++) {
            due("count(" + what + ")", real.count(what), model.count(what));
        }
        for (int cell = -1; cell <= 4; cell++) {
            for (int what = -1; what <= 7; what++) {
                due("of(" + cell + ", " + what + ")", realOf(cell, what), model.of(cell, what));
            }
        }
        for (int link = -1; link <= 8; link++) {
            due("counted(" + link + ")", real.counted(link), model.counted(link));
        }
        int last = model.count(2);
        for (int i = Math.max(-1, last - 20); i <= last; i++) {
            lookAtEvent(i);
        }
        lookAtEvent(random.nextInt(510));
    }

    private void lookAtEvent(int i) {
        for (int what = -1; what <= 4; what++) {
            due("event(" + i + ", " + what + ")", real.event(i, what), model.event(i, what));
        }
    }

    private long realOf(int cell, int what) {
        try {
            return real.of(cell, what);
        } catch (NoSuchElementException asDue) {
            return PlainModel.NO_SUCH_ELEMENT;
        }
    }
}
