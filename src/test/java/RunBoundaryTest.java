/** Promises 7 to 11: every boundary that the document names of EVENTS, of SPENT, and of what is asked then. */
public final class RunBoundaryTest {
    private static final int NONE = SwingCircuits.NONE;
    private static final int MOST = Integer.MAX_VALUE;
    private static final int LEAST = Integer.MIN_VALUE;
    private static final int MILLION = 1000000;

    private static final Checks CHECKS = new Checks();

    public static void main(String[] args) {
        runsRefused();
        runOfNone();
        runOfMost();
        leastOfEqualCells();
        eventsWithoutTime();
        allCallsOfAnObject();
        timeNumeratorAtItsBound();
        timeNumeratorAtItsBoundIsKept();
        timeNumeratorOneOver();
        timeDenominatorAtItsBound();
        levelNumeratorAtItsBound();
        levelNumeratorBelowZeroAtItsBound();
        levelDenominatorAtItsBound();
        levelNumeratorsOneOver();
        spentChangesNothing();
        spentEndsWithReset();
        countsNotThere();
        spentIsToldAhead();
        cellsNotThere();
        lowestTerms();
        beatIsOfTheCellAlone();
        linksNotThere();
        eventsNotThere();
        firstFiveHundredAreKept();
        CHECKS.finish("RunBoundaryTest");
    }

    private static void due(String call, long got, long want) {
        CHECKS.due(call, got, want);
    }

    private static void dueEvent(String name, SwingCircuits x, int i, long... want) {
        CHECKS.dueAll(name, new long[] {x.event(i, 0), x.event(i, 1), x.event(i, 2), x.event(i, 3)}, want);
    }

    /** A CELL at its TOP for ever: each EVENT of it turns it back, and no TIME goes. */
    private static SwingCircuits stuck() {
        SwingCircuits x = new SwingCircuits();
        x.cell(0, 6, 5, 2);
        x.link(0, 0, 1, 0, 1, 0);
        return x;
    }

    /** A circuit of which no EVENT more is to come. */
    private static SwingCircuits spent() {
        SwingCircuits x = new SwingCircuits();
        x.cell(0, 10, 57, 35);
        x.cell(0, 11, 47, 52);
        x.drawer(3);
        x.measure(184, 399);
        x.run(500);
        return x;
    }

    // ---- promise 7

    private static void runsRefused() {
        for (int n : new int[] {-1, 501, LEAST, MOST}) {
            View.refused(CHECKS, "7: run(" + n + ")", View::busy, x -> x.run(n));
            View.refused(CHECKS, "7: run(" + n + ") without cells", View::empty, x -> x.run(n));
            View.refused(CHECKS, "7: run(" + n + ") where it is spent", RunBoundaryTest::spent, x -> x.run(n));
        }
    }

    private static void runOfNone() {
        View.unchanged(CHECKS, "7: run(0)", View::busy, x -> x.run(0), 0);
        View.unchanged(CHECKS, "7: run(0) without cells", View::empty, x -> x.run(0), 0);
        View.unchanged(CHECKS, "7: run(1) without cells", View::empty, x -> x.run(1), 0);
        View.unchanged(CHECKS, "7: run(500) without cells", View::empty, x -> x.run(500), 0);
    }

    private static void runOfMost() {
        SwingCircuits x = new SwingCircuits();
        x.cell(0, 1, 1, 1);
        due("7: run(1)", x.run(1), 1);
        due("7: run(500)", x.run(500), 500);
        due("7: events", x.count(2), 501);
        due("7: TIME", x.count(3), 501);
        due("7: tops", x.of(0, 3), 251);
        due("7: bottoms", x.of(0, 4), 250);
    }

    private static void leastOfEqualCells() {
        SwingCircuits x = new SwingCircuits();
        x.cell(0, 8, 2, 1);
        x.cell(0, 4, 1, 1);
        x.cell(-2, 2, 1, 4);
        x.cell(0, 1, 1, 1);
        x.run(9);
        int[][] want = {{3, 0, 1}, {3, 1, 2}, {3, 0, 3}, {0, 0, 4}, {1, 0, 4}, {2, 0, 4}, {3, 1, 4}, {2, 1, 5}, {3, 0, 5}};
        for (int i = 0; i < want.length; i++) {
            dueEvent("7: event " + i, x, i, want[i][0], want[i][1], want[i][2], 1);
        }
    }

    private static void eventsWithoutTime() {
        SwingCircuits x = stuck();
        due("7: run(500) at one moment", x.run(500), 500);
        due("7: TIME", x.count(3), 6);
        due("7: by", x.count(4), 5);
        due("7: tops", x.of(0, 3), 500);
        due("7: bottoms", x.of(0, 4), 0);
        due("7: not spent", x.count(5), 0);
        dueEvent("7: the last", x, 499, 0, 0, 6, 5);
    }

    /** 512 calls: link and cell, 505 runs, and five questions. */
    private static void allCallsOfAnObject() {
        SwingCircuits x = stuck();
        for (int i = 0; i < 505; i++) {
            due("7: run(500)", x.run(500), 500);
        }
        due("8: events", x.count(2), 252500);
        due("9: tops", x.of(0, 3), 252500);
        due("11: the last that is kept", x.event(499, 2), 6);
        due("11: the first that is not", x.event(500, 2), NONE);
        due("5: reset()", x.reset(), 252500);
    }

    // ---- SPENT

    private static void timeNumeratorAtItsBound() {
        SwingCircuits x = new SwingCircuits();
        x.cell(-50, 50, 1, 1);
        for (int i = 0; i < 20; i++) {
            due("7: run(500)", x.run(500), 500);
        }
        due("7: TIME just at its bound", x.count(3), MILLION);
        due("7: the next is spent", x.count(5), 1);
        due("7: run(1)", x.run(1), 0);
        due("7: TIME stays", x.count(3), MILLION);
    }

    /** Among the first 500 EVENTS such a TIME needs a denominator above 1. */
    private static void timeNumeratorAtItsBoundIsKept() {
        SwingCircuits x = new SwingCircuits();
        x.cell(-47, -19, 23, 27);
        x.cell(-49, -25, 27, 9);
        x.link(1, 1, 1, 1, 1, 0);
        x.link(0, 1, 2, 0, 1, 0);
        x.link(0, 0, 2, 1, 1, 0);
        x.link(1, 1, 1, 1, 1, 0);
        due("7: run(500)", x.run(500), 38);
        int found = 0;
        for (int i = 0; i < 38; i++) {
            found += x.event(i, 2) == MILLION ? 1 : 0;
        }
        due("11: an event whose TIME is 1000000 by something", found > 0 ? 1 : 0, 1);
    }

    /** Beat 101/2460: 19802 EVENTS would be 1000001/2460. */
    private static void timeNumeratorOneOver() {
        SwingCircuits x = new SwingCircuits();
        x.cell(0, 1, 41, 60);
        for (int i = 0; i < 39; i++) {
            due("7: run(500)", x.run(500), 500);
        }
        due("7: run(300)", x.run(300), 300);
        due("7: not spent", x.count(5), 0);
        due("7: run(1)", x.run(1), 1);
        due("7: one over is spent", x.count(5), 1);
        due("7: run(500)", x.run(500), 0);
        due("7: events", x.count(2), 19801);
        due("7: TIME, 999960/2460", x.count(3), 16666);
        due("7: by", x.count(4), 41);
    }

    private static void timeDenominatorAtItsBound() {
        SwingCircuits x = new SwingCircuits();
        x.cell(-2, 5, 50, 5);
        x.cell(-43, -40, 50, 20);
        x.link(1, 1, 1, 0, 1, 0);
        due("7: run(13)", x.run(13), 13);
        due("7: TIME", x.count(3), 859103);
        due("7: by its bound", x.count(4), MILLION);
        dueEvent("11: the event then", x, 12, 0, 0, 859103, MILLION);
        due("7: not spent", x.count(5), 0);
        due("7: run(500)", x.run(500), 2);
        due("7: spent", x.count(5), 1);
    }

    private static void levelNumeratorAtItsBound() {
        SwingCircuits x = new SwingCircuits();
        x.cell(-40, -24, 49, 34);
        x.cell(16, 30, 48, 41);
        x.cell(3, 32, 51, 32);
        dueAtBound("7: a LEVEL of 1000000 by something", x, 0, MILLION);
        due("7: run(500)", x.run(500), 431);
    }

    private static void levelNumeratorBelowZeroAtItsBound() {
        SwingCircuits x = new SwingCircuits();
        x.cell(-50, 50, 44, 58);
        x.cell(-50, 50, 2, 37);
        x.cell(-50, 50, 59, 51);
        due("7: run(3)", x.run(3), 3);
        due("7: a LEVEL of -1000000", x.of(0, 0), -MILLION);
        SwingCircuits y = new SwingCircuits();
        y.cell(-50, 50, 43, 55);
        y.cell(-50, 50, 38, 49);
        due("7: run(10)", y.run(10), 10);
        due("7: a LEVEL of -1000000", y.of(0, 0), -MILLION);
    }

    private static void levelDenominatorAtItsBound() {
        SwingCircuits x = new SwingCircuits();
        x.cell(-1, 2, 8, 1);
        x.cell(-20, 8, 25, 2);
        x.cell(-4, 3, 2, 50);
        x.link(1, 0, 1, 2, 1, 0);
        x.link(2, 0, 2, 0, 2, 1);
        x.link(2, 0, 2, 1, 0, -9);
        x.link(1, 0, 1, 0, 2, 0);
        x.link(1, 1, 1, 2, 1, 0);
        dueAtBound("7: a LEVEL by 1000000", x, 1, MILLION);
        due("7: run(500)", x.run(500), 14);
    }

    /** That some LEVEL's numerator (what 0) or denominator (1) is once just so; the circuit is RESET then. */
    private static void dueAtBound(String name, SwingCircuits x, int what, int bound) {
        int found = 0;
        while (x.run(1) == 1) {
            for (int cell = 0; cell < x.count(0); cell++) {
                found += x.of(cell, what) == bound ? 1 : 0;
            }
        }
        due(name, found > 0 ? 1 : 0, 1);
        x.reset();
    }

    /** The next LEVEL would be 1000001, or -1000001, by something; no other term would be too large. */
    private static void levelNumeratorsOneOver() {
        SwingCircuits x = new SwingCircuits();
        x.cell(-15, 4, 46, 57);
        x.cell(17, 19, 55, 58);
        x.cell(15, 35, 56, 41);
        due("7: 1000001 is spent", x.run(500), 27);
        due("7: spent", x.count(5), 1);
        SwingCircuits y = new SwingCircuits();
        y.cell(-33, -13, 15, 37);
        y.cell(1, 25, 51, 53);
        due("7: -1000001 is spent", y.run(500), 60);
        due("7: spent", y.count(5), 1);
    }

    private static void spentChangesNothing() {
        for (int n : new int[] {1, 2, 500}) {
            View.unchanged(CHECKS, "7: run(" + n + ") where it is spent", RunBoundaryTest::spent, x -> x.run(n), 0);
        }
        View.unchanged(CHECKS, "8: count(5) where it is spent", RunBoundaryTest::spent, x -> x.count(5), 1);
        SwingCircuits x = new SwingCircuits();
        x.cell(0, 10, 57, 35);
        x.cell(0, 11, 47, 52);
        x.run(5);
        long[] fiveAsked = View.of(x);
        SwingCircuits y = new SwingCircuits();
        y.cell(0, 10, 57, 35);
        y.cell(0, 11, 47, 52);
        due("7: run(6)", y.run(6), 5);
        CHECKS.dueAll("7: as if five were asked for", View.of(y), fiveAsked);
    }

    private static void spentEndsWithReset() {
        SwingCircuits x = spent();
        due("5: reset() where it is spent", x.reset(), 5);
        due("8: not any more", x.count(5), 0);
        due("7: so many again", x.run(500), 5);
        due("6: set(1, 0, 57)", x.set(1, 0, 57), 47);
        due("8: not any more", x.count(5), 0);
        x.run(500);
        due("3: link", x.link(0, 0, 1, 0, 1, 0), 0);
        due("8: not any more", x.count(5), 0);
        x.run(500);
        due("2: cell", x.cell(0, 1, 1, 1), 2);
        due("8: not any more", x.count(5), 0);
        x.run(500);
        due("4: clear()", x.clear(), 3);
        due("8: not without cells", x.count(5), 0);
    }

    // ---- promise 8

    private static void countsNotThere() {
        for (int what : new int[] {-1, 8, 9, LEAST, MOST}) {
            View.refused(CHECKS, "8: count(" + what + ")", View::busy, x -> x.count(what));
            View.refused(CHECKS, "8: count(" + what + ") of a new object", View::empty, x -> x.count(what));
        }
        SwingCircuits x = View.full();
        due("8: most cells", x.count(0), 4);
        due("8: most links", x.count(1), 8);
        due("8: most in the drawer", x.count(6), 10);
        due("8: most measured", x.count(7), 8);
    }

    private static void spentIsToldAhead() {
        View.unchanged(CHECKS, "8: count(5)", View::busy, x -> x.count(5), 0);
        View.unchanged(CHECKS, "8: count(5) without cells", View::empty, x -> x.count(5), 0);
        SwingCircuits x = new SwingCircuits();
        x.cell(0, 10, 57, 35);
        x.cell(0, 11, 47, 52);
        for (int i = 0; i < 5; i++) {
            due("8: not yet, " + i, x.count(5), 0);
            x.run(1);
        }
        due("8: behind five", x.count(5), 1);
    }

    // ---- promise 9

    private static void cellsNotThere() {
        SwingCircuits x = View.busy();
        for (int cell : new int[] {-1, 2, 3, 4, LEAST, MOST}) {
            for (int what = -1; what <= 7; what++) {
                CHECKS.ofThrows(x, cell, what);
            }
        }
        for (int what : new int[] {-1, 7, 8, LEAST, MOST}) {
            CHECKS.ofThrows(x, 0, what);
            CHECKS.ofThrows(x, 1, what);
        }
        CHECKS.dueAll("9: a throw changes nothing", View.of(x), View.of(View.busy()));
        CHECKS.ofThrows(View.full(), 4, 0);
        CHECKS.ofThrows(View.empty(), 0, 0);
    }

    private static void lowestTerms() {
        SwingCircuits x = new SwingCircuits();
        x.cell(-3, 3, 4, 6);
        x.cell(-2, 50, 2, 1);
        CHECKS.dueAll("9: TIME 0 is by 1", new long[] {x.count(3), x.count(4)}, 0, 1);
        x.run(1);
        CHECKS.dueAll("8: 6/4", new long[] {x.count(3), x.count(4)}, 3, 2);
        CHECKS.dueAll("9: 1", new long[] {x.of(1, 0), x.of(1, 1)}, 1, 1);
        CHECKS.dueAll("9: beat 15/6", new long[] {x.of(0, 5), x.of(0, 6)}, 5, 2);
        SwingCircuits y = new SwingCircuits();
        y.cell(-3, 3, 4, 6);
        y.cell(-3, 50, 2, 1);
        y.run(1);
        CHECKS.dueAll("9: a LEVEL 0 is by 1", new long[] {y.of(1, 0), y.of(1, 1)}, 0, 1);
    }

    /** The least and the greatest BEAT, whatever a LINK does to the CELL itself. */
    private static void beatIsOfTheCellAlone() {
        SwingCircuits x = new SwingCircuits();
        x.cell(0, 1, 60, 60);
        x.cell(-50, 50, 1, 1);
        x.cell(0, 1, 59, 60);
        x.link(0, 0, 1, 0, 0, -20);
        x.link(1, 1, 1, 1, 1, 0);
        CHECKS.dueAll("9: the least beat", new long[] {x.of(0, 5), x.of(0, 6)}, 1, 30);
        CHECKS.dueAll("9: the greatest", new long[] {x.of(1, 5), x.of(1, 6)}, 200, 1);
        CHECKS.dueAll("9: the greatest denominator", new long[] {x.of(2, 5), x.of(2, 6)}, 119, 3540);
    }

    // ---- promise 10

    private static void linksNotThere() {
        for (int link : new int[] {-1, 2, 7, 8, LEAST, MOST}) {
            View.refused(CHECKS, "10: counted(" + link + ")", View::busy, x -> x.counted(link));
        }
        View.refused(CHECKS, "10: counted(8) of eight", View::full, x -> x.counted(8));
        View.refused(CHECKS, "10: counted(0) of none", View::empty, x -> x.counted(0));
        due("10: the last of eight", View.full().counted(7), 0);
        due("10: the first of eight", View.full().counted(0), 1);
    }

    // ---- promise 11

    private static void eventsNotThere() {
        for (int what = 0; what <= 3; what++) {
            int asked = what;
            for (int i : new int[] {-1, 5, 6, 499, 500, LEAST, MOST}) {
                View.refused(CHECKS, "11: event(" + i + ", " + what + ")", View::busy, x -> x.event(i, asked));
            }
        }
        for (int what : new int[] {-1, 4, 5, LEAST, MOST}) {
            View.refused(CHECKS, "11: event(0, " + what + ")", View::busy, x -> x.event(0, what));
            View.refused(CHECKS, "11: event(4, " + what + ")", View::busy, x -> x.event(4, what));
        }
        View.refused(CHECKS, "11: event(0, 0) of none", View::empty, x -> x.event(0, 0));
        due("11: the last of five", View.busy().event(4, 3) > 0 ? 1 : 0, 1);
    }

    private static void firstFiveHundredAreKept() {
        SwingCircuits x = new SwingCircuits();
        x.cell(0, 1, 1, 1);
        x.run(499);
        due("11: event(499, 0) of 499", x.event(499, 0), NONE);
        x.run(1);
        dueEvent("11: event 499 of 500", x, 499, 0, 1, 500, 1);
        due("11: event(500, 0) of 500", x.event(500, 0), NONE);
        x.run(2);
        for (int what = 0; what <= 3; what++) {
            due("11: event(500, " + what + ") of 502", x.event(500, what), NONE);
            due("11: event(501, " + what + ") of 502", x.event(501, what), NONE);
        }
        due("8: there were so many", x.count(2), 502);
        dueEvent("11: event 499 of 502", x, 499, 0, 1, 500, 1);
        dueEvent("11: event 0 of 502", x, 0, 0, 0, 1, 1);
        x.reset();
        x.run(2);
        dueEvent("11: anew, event 1", x, 1, 0, 1, 2, 1);
        due("11: anew, event 2", x.event(2, 0), NONE);
        due("11: anew, event 499", x.event(499, 0), NONE);
    }
}
