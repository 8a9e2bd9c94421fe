/** Promises 1 to 6: every boundary that the document names of what is told, set and taken back. */
public final class TellBoundaryTest {
    private static final int NONE = SwingCircuits.NONE;
    private static final int MOST = Integer.MAX_VALUE;
    private static final int LEAST = Integer.MIN_VALUE;

    private static final Checks CHECKS = new Checks();

    public static void main(String[] args) {
        newObjectHasNothing();
        objectsShareNothing();
        cellsRefused();
        fifthCellRefused();
        barsAtTheirBounds();
        ratesAtTheirBounds();
        linksRefused();
        ninthLinkRefused();
        linksAtTheirBounds();
        nthAtItsBounds();
        kicksAtTheirBounds();
        kicksUpToABar();
        kickedToABarWhileGoingThere();
        kickIsNoTurning();
        setToWhatItIs();
        turnedTwiceInOneEvent();
        sideIsThatOfTheEvent();
        clearOfNoneAndOfAll();
        resetOfNoneAndOfMany();
        setsRefused();
        setsAtTheirBounds();
        CHECKS.finish("TellBoundaryTest");
    }

    private static void due(String call, long got, long want) {
        CHECKS.due(call, got, want);
    }

    private static void dueOf(String name, SwingCircuits x, int cell, long... want) {
        long[] got = new long[want.length];
        for (int what = 0; what < want.length; what++) {
            got[what] = x.of(cell, what);
        }
        CHECKS.dueAll(name, got, want);
    }

    private static void dueEvent(String name, SwingCircuits x, int i, long... want) {
        CHECKS.dueAll(name, new long[] {x.event(i, 0), x.event(i, 1), x.event(i, 2), x.event(i, 3)}, want);
    }

    // ---- promise 1

    private static void newObjectHasNothing() {
        SwingCircuits x = new SwingCircuits();
        int[] want = {0, 0, 0, 0, 1, 0, 0, 0};
        for (int what = 0; what < want.length; what++) {
            due("1: count(" + what + ")", x.count(what), want[what]);
        }
        for (int what = 0; what <= 6; what++) {
            CHECKS.ofThrows(x, 0, what);
        }
        due("1: counted(0)", x.counted(0), NONE);
        for (int what = 0; what <= 3; what++) {
            due("1: event(0, " + what + ")", x.event(0, what), NONE);
        }
        for (int what = 0; what <= 7; what++) {
            due("1: ringed(" + what + ")", x.ringed(what), NONE);
        }
        due("1: set(0, 0, 1)", x.set(0, 0, 1), NONE);
        due("1: link(0, 0, 1, 0, 1, 0)", x.link(0, 0, 1, 0, 1, 0), NONE);
        due("1: run(500)", x.run(500), 0);
        due("1: ring(300)", x.ring(300), NONE);
        due("1: parts(0, 1, 1)", x.parts(0, 1, 1), NONE);
        due("1: part(0, 1, 1, 0)", x.part(0, 1, 1, 0), NONE);
        due("1: faults(0)", x.faults(0), NONE);
        due("1: fault(0, 0)", x.fault(0, 0), NONE);
        due("1: fits(0)", x.fits(0), NONE);
        due("1: reset()", x.reset(), 0);
        due("1: clear()", x.clear(), 0);
        due("1: forget()", x.forget(), 0);
    }

    private static void objectsShareNothing() {
        SwingCircuits x = View.full();
        CHECKS.dueAll("1: a new object beside a full one", View.of(new SwingCircuits()), View.of(View.empty()));
        CHECKS.dueAll("1: the full one beside a new one", View.of(x), View.of(View.full()));
    }

    // ---- promise 2

    private static void cellsRefused() {
        int[][] others = {
            {-51, 0, 1, 1}, {-51, -50, 1, 1}, {LEAST, 0, 1, 1}, {0, 51, 1, 1}, {50, 51, 1, 1}, {0, MOST, 1, 1},
            {-51, 51, 1, 1}, {LEAST, MOST, 1, 1}, {0, 0, 1, 1}, {-50, -50, 1, 1}, {50, 50, 1, 1}, {1, 0, 1, 1},
            {-49, -50, 1, 1}, {50, -50, 1, 1}, {MOST, LEAST, 1, 1}, {51, 52, 1, 1}, {-52, -51, 1, 1},
            {0, 1, 0, 1}, {0, 1, -1, 1}, {0, 1, 61, 1}, {0, 1, LEAST, 1}, {0, 1, MOST, 1},
            {0, 1, 1, 0}, {0, 1, 1, -1}, {0, 1, 1, 61}, {0, 1, 1, LEAST}, {0, 1, 1, MOST},
        };
        for (int[] o : others) {
            String call = "2: cell(" + o[0] + ", " + o[1] + ", " + o[2] + ", " + o[3] + ")";
            View.refused(CHECKS, call + ", the first", View::empty, x -> x.cell(o[0], o[1], o[2], o[3]));
            View.refused(CHECKS, call + ", the third", View::busy, x -> x.cell(o[0], o[1], o[2], o[3]));
        }
    }

    private static void fifthCellRefused() {
        View.refused(CHECKS, "2: the fifth", View::full, x -> x.cell(0, 1, 1, 1));
        View.refused(CHECKS, "2: the fifth, wrong besides", View::full, x -> x.cell(1, 1, 1, 1));
        SwingCircuits x = new SwingCircuits();
        for (int i = 0; i < 4; i++) {
            due("2: cell number " + i, x.cell(0, 1, 1, 1), i);
        }
        due("2: the fifth", x.cell(0, 1, 1, 1), NONE);
        x.clear();
        due("2: the first again", x.cell(0, 1, 1, 1), 0);
    }

    private static void barsAtTheirBounds() {
        int[][] bars = {{-50, -49}, {49, 50}, {-50, 50}, {0, 1}, {-1, 0}};
        for (int[] b : bars) {
            String name = "2: bars " + b[0] + " and " + b[1];
            SwingCircuits x = new SwingCircuits();
            due(name, x.cell(b[0], b[1], 1, 1), 0);
            dueOf(name + ", at first", x, 0, b[0], 1, 1, 0, 0, 2 * (b[1] - b[0]), 1);
            x.run(1);
            dueOf(name + ", at its top", x, 0, b[1], 1, 0, 1, 0);
            x.run(1);
            dueOf(name + ", at its bottom", x, 0, b[0], 1, 1, 1, 1);
        }
    }

    private static void ratesAtTheirBounds() {
        int[][] told = {{1, 1, 100, 1, 200, 1}, {60, 1, 5, 3, 305, 3}, {1, 60, 100, 1, 305, 3},
            {60, 60, 5, 3, 10, 3}};
        for (int[] t : told) {
            String name = "2: rise " + t[0] + ", fall " + t[1];
            SwingCircuits x = new SwingCircuits();
            due(name, x.cell(-50, 50, t[0], t[1]), 0);
            x.run(2);
            dueEvent(name + ", top", x, 0, 0, 0, t[2], t[3]);
            dueEvent(name + ", bottom", x, 1, 0, 1, t[4], t[5]);
        }
    }

    // ---- promise 3

    private static void linksRefused() {
        int[][] others = {
            {-1, 0, 1, 0, 0, 0}, {2, 0, 1, 0, 0, 0}, {4, 0, 1, 0, 0, 0}, {LEAST, 0, 1, 0, 0, 0}, {MOST, 0, 1, 0, 0, 0},
            {0, -1, 1, 0, 0, 0}, {0, 2, 1, 0, 0, 0}, {0, LEAST, 1, 0, 0, 0}, {0, MOST, 1, 0, 0, 0},
            {0, 0, 0, 0, 0, 0}, {0, 0, -1, 0, 0, 0}, {0, 0, 10, 0, 0, 0}, {0, 0, LEAST, 0, 0, 0}, {0, 0, MOST, 0, 0, 0},
            {0, 0, 1, -1, 0, 0}, {0, 0, 1, 2, 0, 0}, {0, 0, 1, 4, 0, 0}, {0, 0, 1, LEAST, 0, 0}, {0, 0, 1, MOST, 0, 0},
            {0, 0, 1, 0, -1, 0}, {0, 0, 1, 0, 3, 0}, {0, 0, 1, 0, LEAST, 0}, {0, 0, 1, 0, MOST, 0},
            {0, 0, 1, 0, 0, -21}, {0, 0, 1, 0, 0, 21}, {0, 0, 1, 0, 0, LEAST}, {0, 0, 1, 0, 0, MOST},
            {0, 0, 1, 0, 2, -1}, {0, 0, 1, 0, 2, 2}, {0, 0, 1, 0, 2, LEAST}, {0, 0, 1, 0, 2, MOST},
            {2, 0, 1, 0, 1, 5}, {0, 2, 1, 0, 1, 5}, {0, 0, 10, 0, 1, 5}, {0, 0, 1, 2, 1, 5},
        };
        for (int[] o : others) {
            String call = "3: link(" + o[0] + ", " + o[1] + ", " + o[2] + ", " + o[3] + ", " + o[4] + ", " + o[5] + ")";
            View.refused(CHECKS, call, View::busy, x -> x.link(o[0], o[1], o[2], o[3], o[4], o[5]));
        }
        View.refused(CHECKS, "3: a link without cells", View::empty, x -> x.link(0, 0, 1, 0, 0, 0));
    }

    private static void ninthLinkRefused() {
        View.refused(CHECKS, "3: the ninth", View::full, x -> x.link(0, 0, 1, 0, 0, 0));
        SwingCircuits x = new SwingCircuits();
        x.cell(0, 1, 1, 1);
        for (int i = 0; i < 8; i++) {
            due("3: link number " + i, x.link(0, 0, 1, 0, 0, 0), i);
        }
        due("3: the ninth", x.link(0, 0, 1, 0, 0, 0), NONE);
        due("3: links", x.count(1), 8);
        x.clear();
        x.cell(0, 1, 1, 1);
        due("3: the first again", x.link(0, 0, 1, 0, 0, 0), 0);
    }

    private static void linksAtTheirBounds() {
        int[][] fitting = {
            {0, 0, 1, 0, 0, 0}, {3, 1, 9, 3, 0, 0}, {0, 0, 1, 3, 0, -20}, {3, 1, 9, 0, 0, 20},
            {1, 0, 1, 1, 1, LEAST}, {1, 0, 1, 1, 1, MOST}, {1, 0, 1, 1, 1, -21}, {1, 0, 1, 1, 1, 2},
            {2, 1, 1, 2, 2, 0}, {2, 1, 1, 2, 2, 1},
        };
        for (int[] o : fitting) {
            SwingCircuits x = new SwingCircuits();
            for (int i = 0; i < 4; i++) {
                x.cell(0, 1, 1, 1);
            }
            x.run(3);
            String call = "3: link(" + o[0] + ", " + o[1] + ", " + o[2] + ", " + o[3] + ", " + o[4] + ", " + o[5] + ")";
            due(call, x.link(o[0], o[1], o[2], o[3], o[4], o[5]), 0);
            due(call + ", links", x.count(1), 1);
            due(call + ", RESET", x.count(2), 0);
        }
    }

    /** Each first time, or each ninth and not the eighth. */
    private static void nthAtItsBounds() {
        SwingCircuits x = new SwingCircuits();
        x.cell(0, 1, 1, 1);
        x.cell(0, 50, 1, 1);
        x.link(0, 0, 9, 1, 1, 0);
        x.run(16);
        due("3: counted after eight tops", x.counted(0), 8);
        due("3: not turned by the eighth", x.of(1, 2), 1);
        x.run(1);
        due("3: counted after nine", x.counted(0), 0);
        due("3: turned by the ninth", x.of(1, 2), 0);
        x.run(2);
        due("3: counted after ten", x.counted(0), 1);
        due("3: not turned by the tenth", x.of(1, 2), 0);
        SwingCircuits y = new SwingCircuits();
        y.cell(0, 1, 1, 1);
        y.cell(0, 50, 1, 1);
        y.link(0, 1, 1, 1, 1, 0);
        y.run(2);
        due("3: turned by the first bottom", y.of(1, 2), 0);
        due("3: counted, of each first", y.counted(0), 0);
        y.run(1);
        due("3: no top turns it", y.of(1, 2), 0);
    }

    /** A cell 1 that is at -40 when cell 0 is at its first top, kicked by k: where it is then. */
    private static void dueKick(int high, int k, int level) {
        SwingCircuits x = new SwingCircuits();
        x.cell(0, 1, 1, 1);
        x.cell(-50, high, 10, 10);
        x.link(0, 0, 1, 1, 0, k);
        x.run(1);
        dueOf("3: -40 kicked by " + k + ", " + high + " at most", x, 1, level, 1, 1, 0, 0);
    }

    private static void kicksAtTheirBounds() {
        dueKick(50, 20, -20);
        dueKick(50, -20, -50);
        dueKick(50, 0, -40);
        dueKick(50, -9, -49);
        dueKick(50, -10, -50);
        dueKick(50, -11, -50);
        dueKick(-19, 20, -20);
        dueKick(-20, 20, -20);
        dueKick(-21, 20, -21);
        dueKick(-39, 20, -39);
    }

    /** By fractions: a third below the bar is kicked over it, and is the bar then. */
    private static void kicksUpToABar() {
        SwingCircuits x = new SwingCircuits();
        x.cell(0, 1, 3, 3);
        x.cell(0, 2, 5, 1);
        x.cell(-2, 50, 1, 1);
        x.link(0, 0, 1, 1, 0, 1);
        x.link(0, 0, 1, 2, 0, -1);
        x.run(1);
        dueOf("3: 5/3 and 1, 2 at most", x, 1, 2, 1, 1, 0, 0);
        dueOf("3: -5/3 and -1, -2 at least", x, 2, -2, 1, 1, 0, 0);
        SwingCircuits y = new SwingCircuits();
        y.cell(0, 1, 3, 3);
        y.cell(-1, 2, 5, 1);
        y.cell(-4, 50, 4, 1);
        y.link(0, 0, 1, 1, 0, 1);
        y.link(0, 0, 1, 2, 0, -1);
        y.run(1);
        dueOf("3: 2/3 and 1", y, 1, 5, 3, 1, 0, 0);
        dueOf("3: -8/3 and -1", y, 2, -11, 3, 1, 0, 0);
    }

    private static void kickedToABarWhileGoingThere() {
        SwingCircuits x = new SwingCircuits();
        x.cell(0, 2, 1, 1);
        x.cell(0, 10, 1, 1);
        x.link(0, 0, 1, 1, 0, 8);
        x.run(2);
        dueEvent("3: at its high bar, filling: a top at once", x, 1, 1, 0, 2, 1);
        SwingCircuits y = new SwingCircuits();
        y.cell(0, 2, 1, 1);
        y.cell(0, 10, 1, 1);
        y.link(0, 0, 1, 1, 2, 1);
        y.link(0, 0, 1, 1, 0, -2);
        y.run(2);
        dueEvent("3: at its low bar, not filling: a bottom at once", y, 1, 1, 1, 2, 1);
        SwingCircuits z = new SwingCircuits();
        z.cell(0, 2, 1, 1);
        z.cell(0, 10, 1, 1);
        z.link(0, 0, 1, 1, 0, -20);
        z.run(2);
        dueEvent("3: at its low bar, filling: no bottom", z, 1, 0, 1, 4, 1);
        dueOf("3: it fills from there", z, 1, 2, 1, 1, 0, 0);
        SwingCircuits w = new SwingCircuits();
        w.cell(0, 2, 1, 1);
        w.cell(0, 10, 1, 1);
        w.link(0, 0, 1, 1, 2, 1);
        w.link(0, 0, 1, 1, 0, 20);
        w.run(2);
        dueEvent("3: at its high bar, not filling: no top", w, 1, 0, 1, 4, 1);
        dueOf("3: it empties from there", w, 1, 8, 1, 0, 0, 0);
    }

    /** A LINK from a CELL counts its EVENTS alone, not that it comes to a bar by a KICK. */
    private static void kickIsNoTurning() {
        SwingCircuits x = new SwingCircuits();
        x.cell(0, 2, 1, 1);
        x.cell(0, 10, 1, 1);
        x.link(0, 0, 1, 1, 0, 20);
        x.link(1, 0, 3, 0, 0, 0);
        x.run(1);
        dueOf("3: kicked to its high bar", x, 1, 10, 1, 1, 0, 0);
        due("3: not counted yet", x.counted(1), 0);
        x.run(1);
        dueOf("3: now it turns", x, 1, 10, 1, 0, 1, 0);
        due("3: and is counted", x.counted(1), 1);
    }

    private static void setToWhatItIs() {
        SwingCircuits x = new SwingCircuits();
        x.cell(0, 2, 1, 1);
        x.cell(0, 10, 1, 1);
        x.link(0, 0, 1, 1, 2, 0);
        x.run(1);
        dueOf("3: filling, set filling", x, 1, 2, 1, 1, 0, 0);
        SwingCircuits y = new SwingCircuits();
        y.cell(0, 2, 1, 1);
        y.link(0, 0, 1, 0, 2, 1);
        y.link(0, 1, 1, 0, 2, 0);
        y.run(2);
        dueOf("3: set to what it turned to", y, 0, 0, 1, 1, 1, 1);
        dueEvent("3: the bottom", y, 1, 0, 1, 4, 1);
    }

    private static void turnedTwiceInOneEvent() {
        SwingCircuits x = new SwingCircuits();
        x.cell(0, 2, 1, 1);
        x.link(0, 0, 1, 0, 1, 0);
        x.link(0, 0, 1, 0, 1, 0);
        x.run(2);
        dueEvent("3: as if never", x, 1, 0, 1, 4, 1);
    }

    /** An earlier LINK turns the CELL back, but it was a TOP all the same for the later ones. */
    private static void sideIsThatOfTheEvent() {
        SwingCircuits x = new SwingCircuits();
        x.cell(0, 4, 2, 2);
        x.link(0, 0, 1, 0, 1, 0);
        x.link(0, 0, 2, 0, 0, 0);
        x.link(0, 1, 9, 0, 0, 0);
        x.run(1);
        due("3: filling again", x.of(0, 2), 1);
        due("3: the later one at the top", x.counted(1), 1);
        due("3: the one at the bottom", x.counted(2), 0);
        x.run(1);
        dueEvent("3: a top again", x, 1, 0, 0, 2, 1);
        due("3: the second time", x.counted(1), 0);
    }

    // ---- promise 4

    private static void clearOfNoneAndOfAll() {
        View.unchanged(CHECKS, "4: clear() of none", View::empty, x -> x.clear(), 0);
        SwingCircuits x = View.full();
        due("4: clear() of four", x.clear(), 4);
        int[] want = {0, 0, 0, 0, 1, 0, 10, 8};
        for (int what = 0; what < want.length; what++) {
            due("4: count(" + what + ")", x.count(what), want[what]);
        }
        due("4: event(0, 0)", x.event(0, 0), NONE);
        due("4: counted(0)", x.counted(0), NONE);
        CHECKS.ofThrows(x, 0, 0);
        due("4: run(500)", x.run(500), 0);
        due("4: clear() again", x.clear(), 0);
        due("4: a first one", x.cell(-7, 7, 1, 1), 0);
        dueOf("4: it starts at its own bar", x, 0, -7, 1, 1, 0, 0);
        due("4: no old link", x.count(1), 0);
        due("4: a first link", x.link(0, 0, 9, 0, 0, 0), 0);
        due("4: without the old count", x.counted(0), 0);
    }

    // ---- promise 5

    private static void resetOfNoneAndOfMany() {
        View.unchanged(CHECKS, "5: reset() without cells", View::empty, x -> x.reset(), 0);
        SwingCircuits x = View.busy();
        due("5: reset() of five", x.reset(), 5);
        due("5: reset() of none", x.reset(), 0);
        due("5: TIME", x.count(3), 0);
        due("5: by", x.count(4), 1);
        due("5: counted(0)", x.counted(0), 0);
        dueOf("5: cell 0", x, 0, 0, 1, 1, 0, 0);
        dueOf("5: cell 1", x, 1, -4, 1, 1, 0, 0);
        due("5: event(0, 0)", x.event(0, 0), NONE);
        x.run(1);
        due("5: the old second one", x.event(1, 0), NONE);
    }

    // ---- promise 6

    private static void setsRefused() {
        int[][] others = {
            {-1, 0, 5}, {2, 0, 5}, {4, 0, 5}, {LEAST, 0, 5}, {MOST, 0, 5},
            {0, -1, 5}, {0, 2, 5}, {0, LEAST, 5}, {0, MOST, 5},
            {0, 0, 0}, {0, 0, -1}, {0, 0, 61}, {0, 0, LEAST}, {0, 0, MOST},
            {1, 1, 0}, {1, 1, -1}, {1, 1, 61}, {1, 1, LEAST}, {1, 1, MOST},
        };
        for (int[] o : others) {
            String call = "6: set(" + o[0] + ", " + o[1] + ", " + o[2] + ")";
            View.refused(CHECKS, call, View::busy, x -> x.set(o[0], o[1], o[2]));
        }
        View.refused(CHECKS, "6: set(0, 0, 5) without cells", View::empty, x -> x.set(0, 0, 5));
        View.refused(CHECKS, "6: set(4, 0, 5) of four", View::full, x -> x.set(4, 0, 5));
    }

    private static void setsAtTheirBounds() {
        SwingCircuits x = new SwingCircuits();
        for (int i = 0; i < 4; i++) {
            x.cell(-30, 30, 7, 8);
        }
        x.run(3);
        due("6: rise 60", x.set(3, 0, 60), 7);
        due("6: RESET", x.count(2), 0);
        due("6: fall 1", x.set(3, 1, 1), 8);
        x.run(1);
        dueEvent("6: top", x, 0, 3, 0, 1, 1);
        dueOf("6: beat", x, 3, 30, 1, 0, 1, 0, 61, 1);
        due("6: rise 1", x.set(3, 0, 1), 60);
        due("6: fall 60", x.set(3, 1, 60), 1);
        dueOf("6: beat", x, 3, -30, 1, 1, 0, 0, 61, 1);
        dueOf("6: the others stay", x, 2, -30, 1, 1, 0, 0, 225, 14);
        x.run(2);
        due("6: what it was", x.set(3, 1, 60), 60);
        due("6: RESET all the same", x.count(2), 0);
    }
}
