/** Promises 12 and 13: every boundary that the document names of rings. */
public final class RingBoundaryTest {
    private static final int NONE = SwingCircuits.NONE;
    private static final int NO_RING = -2;
    private static final int RING_SPENT = -3;
    private static final int MOST = Integer.MAX_VALUE;
    private static final int LEAST = Integer.MIN_VALUE;

    private static final Checks CHECKS = new Checks();

    public static void main(String[] args) {
        ringsRefused();
        ringWithoutCells();
        ringOfOneEvent();
        ringOfThreeHundredEvents();
        ringJustTooLong();
        leadCountsToo();
        ringJustAheadOfSpent();
        ringSpentFirst();
        spentRingKeepsTheLatest();
        lookingAheadChangesNothing();
        stateHasEverything();
        countsOfEight();
        timeIsNoPartOfTheState();
        topsOnlyInTheRing();
        ringedNotThere();
        ringedBeforeAnyRing();
        ringedStays();
        ringedOfNoTime();
        ringedBeyondTheBoundOfSpent();
        CHECKS.finish("RingBoundaryTest");
    }

    private static void due(String call, long got, long want) {
        CHECKS.due(call, got, want);
    }

    private static void dueRinged(String name, SwingCircuits x, long... want) {
        long[] got = new long[8];
        for (int what = 0; what < 8; what++) {
            got[what] = x.ringed(what);
        }
        CHECKS.dueAll(name, got, want);
    }

    private static void dueRinged(String name, SwingCircuits x) {
        dueRinged(name, x, NONE, NONE, NONE, NONE, NONE, NONE, NONE, NONE);
    }

    private static SwingCircuits swinging() {
        SwingCircuits x = new SwingCircuits();
        x.cell(0, 6, 3, 2);
        return x;
    }

    /** Five EVENTS go, and the sixth is SPENT. */
    private static SwingCircuits soonSpent() {
        SwingCircuits x = new SwingCircuits();
        x.cell(0, 10, 57, 35);
        x.cell(0, 11, 47, 52);
        return x;
    }

    /** What ringed() tells is of this very moment already. */
    private static SwingCircuits ringFound() {
        SwingCircuits x = View.busy();
        x.ring(300);
        return x;
    }

    /** A CELL by itself whose TIME is the bound of SPENT behind so many EVENTS more. */
    private static SwingCircuits lateBy(int events) {
        SwingCircuits x = new SwingCircuits();
        x.cell(-50, 50, 1, 1);
        for (int i = 0; i < 19; i++) {
            x.run(500);
        }
        x.run(500 - events);
        return x;
    }

    // ---- promise 12

    private static void ringsRefused() {
        for (int n : new int[] {0, -1, 301, LEAST, MOST}) {
            View.refused(CHECKS, "12: ring(" + n + ")", View::busy, x -> x.ring(n));
            View.refused(CHECKS, "12: ring(" + n + ") without cells", View::empty, x -> x.ring(n));
            View.refused(CHECKS, "12: ring(" + n + ") where it is spent", () -> lateBy(0), x -> x.ring(n));
        }
    }

    private static void ringWithoutCells() {
        View.refused(CHECKS, "12: ring(1) without cells", View::empty, x -> x.ring(1));
        View.refused(CHECKS, "12: ring(300) without cells", View::empty, x -> x.ring(300));
        SwingCircuits x = swinging();
        due("12: ring(300)", x.ring(300), 2);
        x.clear();
        due("12: ring(300) of cells that were", x.ring(300), NONE);
        dueRinged("13: the latest found", x, 0, 2, 5, 1, 1, 0, 0, 0);
    }

    private static void ringOfOneEvent() {
        SwingCircuits x = swinging();
        due("12: not in one", x.ring(1), NO_RING);
        due("12: in two", x.ring(2), 2);
        x.link(0, 0, 1, 0, 1, 0);
        due("12: a lead of one, not in one", x.ring(1), NO_RING);
        due("12: a lead of one, in two", x.ring(2), 1);
        x.run(1);
        due("12: at its top for ever, in one", x.ring(1), 1);
    }

    /** Spans of 73 and 77: cell 0 beats 77 times while cell 1 beats 73 times, two EVENTS each. */
    private static void ringOfThreeHundredEvents() {
        SwingCircuits x = new SwingCircuits();
        x.cell(-36, 37, 1, 1);
        x.cell(-38, 39, 1, 1);
        due("12: not in 299", x.ring(299), NO_RING);
        dueRinged("13: none yet", x);
        due("12: in 300", x.ring(300), 300);
        dueRinged("13: of 300", x, 0, 300, 11242, 1, 77, 73, 0, 0);
    }

    /** Spans of 75 and 76: 302 EVENTS. */
    private static void ringJustTooLong() {
        SwingCircuits x = new SwingCircuits();
        x.cell(-37, 38, 1, 1);
        x.cell(-38, 38, 1, 1);
        due("12: 302 are more than 300", x.ring(300), NO_RING);
        dueRinged("13: none", x);
        due("12: 301 is refused", x.ring(301), NONE);
    }

    /** LEAD 3 and LENGTH 6: nine EVENTS are needed to see it, not six. */
    private static void leadCountsToo() {
        SwingCircuits x = new SwingCircuits();
        x.cell(0, 6, 3, 2);
        x.cell(0, 4, 1, 1);
        x.link(0, 1, 1, 1, 2, 1);
        due("12: not in six", x.ring(6), NO_RING);
        due("12: not in eight", x.ring(8), NO_RING);
        due("12: in nine", x.ring(9), 6);
        dueRinged("13: with its lead", x, 3, 6, 10, 1, 2, 0, 0, 0);
    }

    private static void ringJustAheadOfSpent() {
        SwingCircuits x = lateBy(2);
        due("12: up to the bound", x.ring(2), 2);
        due("12: no further is looked", x.ring(300), 2);
        dueRinged("13: up to the bound", x, 0, 2, 200, 1, 1, 0, 0, 0);
        due("8: TIME stays", x.count(3), 999800);
    }

    private static void ringSpentFirst() {
        SwingCircuits x = lateBy(1);
        due("12: not in one", x.ring(1), NO_RING);
        due("12: the second is spent", x.ring(2), RING_SPENT);
        due("12: of 300, too", x.ring(300), RING_SPENT);
        SwingCircuits y = lateBy(0);
        due("12: the first is spent", y.ring(1), RING_SPENT);
        SwingCircuits z = soonSpent();
        due("12: none in five", z.ring(5), NO_RING);
        due("12: the sixth is spent", z.ring(6), RING_SPENT);
        z.run(4);
        due("12: none in one more", z.ring(1), NO_RING);
        due("12: then it is spent", z.ring(2), RING_SPENT);
    }

    private static void spentRingKeepsTheLatest() {
        SwingCircuits x = swinging();
        x.ring(300);
        x.clear();
        x.cell(0, 10, 57, 35);
        x.cell(0, 11, 47, 52);
        due("12: spent", x.ring(300), RING_SPENT);
        dueRinged("13: the one that was found", x, 0, 2, 5, 1, 1, 0, 0, 0);
        due("12: none", x.ring(3), NO_RING);
        dueRinged("13: the one that was found", x, 0, 2, 5, 1, 1, 0, 0, 0);
    }

    private static void lookingAheadChangesNothing() {
        View.unchanged(CHECKS, "12: a ring found", RingBoundaryTest::ringFound, x -> x.ring(300), 11);
        View.unchanged(CHECKS, "12: none found", View::busy, x -> x.ring(5), NO_RING);
        View.unchanged(CHECKS, "12: one spent", RingBoundaryTest::soonSpent, x -> x.ring(300), RING_SPENT);
        View.unchanged(CHECKS, "12: one spent late", () -> lateBy(1), x -> x.ring(300), RING_SPENT);
    }

    /** Two STATES that are alike but for a count, for whether one is FILLING, or for one LEVEL, are two. */
    private static void stateHasEverything() {
        SwingCircuits x = swinging();
        x.link(0, 1, 9, 0, 0, 0);
        due("12: but for a count", x.ring(17), NO_RING);
        due("12: nine times round", x.ring(18), 18);
        SwingCircuits y = swinging();
        for (int i = 0; i < 7; i++) {
            y.link(0, 0, 1, 0, 0, 0);
        }
        y.link(0, 0, 2, 0, 0, 0);
        due("12: but for the last link's count", y.ring(3), NO_RING);
        due("12: twice round", y.ring(4), 4);
        SwingCircuits z = new SwingCircuits();
        for (int i = 0; i < 3; i++) {
            z.cell(0, 1, 1, 1);
        }
        z.cell(0, 2, 1, 1);
        due("12: but for cell 3", z.ring(13), NO_RING);
        due("12: with cell 3", z.ring(14), 14);
        dueRinged("13: with cell 3", z, 0, 14, 4, 1, 2, 2, 2, 1);
        SwingCircuits w = new SwingCircuits();
        w.cell(0, 1, 1, 1);
        w.cell(0, 4, 1, 1);
        due("12: but for cell 1 at 3, filling or not", w.ring(9), NO_RING);
        due("12: round", w.ring(10), 10);
    }

    /** The greatest count of a LINK is no more of what stands beside it: of another LINK, or of a CELL. */
    private static void countsOfEight() {
        SwingCircuits x = swinging();
        x.link(0, 0, 2, 0, 0, 0);
        x.link(0, 0, 9, 0, 0, 0);
        due("12: 0 and 8 are not 1 and 0", x.ring(300), 36);
        dueRinged("13: 18 times round", x, 0, 36, 90, 1, 18, 0, 0, 0);
        SwingCircuits y = new SwingCircuits();
        y.cell(0, 1, 1, 1);
        y.cell(0, 1, 1, 1);
        y.cell(0, 1, 1, 1);
        y.cell(0, 4, 1, 1);
        y.link(0, 0, 9, 0, 0, 0);
        due("12: emptying and 8 are not filling and 0", y.ring(300), 234);
        dueRinged("13: nine times round of cell 3", y, 0, 234, 72, 1, 36, 36, 36, 9);
    }

    private static void timeIsNoPartOfTheState() {
        SwingCircuits x = swinging();
        for (int i = 0; i < 5; i++) {
            due("12: from wherever it is", x.ring(2), 2);
            dueRinged("13: from wherever it is", x, 0, 2, 5, 1, 1, 0, 0, 0);
            x.run(1);
        }
    }

    /** The one TOP of cell 1 is in the LEAD, and so is one of the two of cell 0. */
    private static void topsOnlyInTheRing() {
        SwingCircuits x = new SwingCircuits();
        x.cell(0, 1, 1, 1);
        x.cell(0, 50, 50, 1);
        x.link(0, 1, 1, 1, 0, 20);
        x.link(0, 1, 1, 1, 2, 1);
        due("12: ring(300)", x.ring(300), 2);
        dueRinged("13: no top of cell 1", x, 3, 2, 2, 1, 1, 0, 0, 0);
    }

    // ---- promise 13

    private static void ringedNotThere() {
        SwingCircuits x = swinging();
        x.ring(300);
        for (int what : new int[] {-1, 8, 9, LEAST, MOST}) {
            due("13: ringed(" + what + ")", x.ringed(what), NONE);
        }
        dueRinged("13: of cells that are not, 0", x, 0, 2, 5, 1, 1, 0, 0, 0);
    }

    private static void ringedBeforeAnyRing() {
        dueRinged("13: of a new object", new SwingCircuits());
        SwingCircuits x = swinging();
        dueRinged("13: none asked for", x);
        x.ring(1);
        dueRinged("13: none found", x);
        x.ring(0);
        dueRinged("13: refused", x);
        SwingCircuits y = soonSpent();
        y.ring(300);
        dueRinged("13: spent", y);
        for (int what : new int[] {-1, 8, LEAST, MOST}) {
            due("13: ringed(" + what + ") of none", y.ringed(what), NONE);
        }
    }

    private static void ringedStays() {
        SwingCircuits x = swinging();
        x.ring(300);
        x.run(3);
        x.reset();
        x.set(0, 0, 6);
        x.cell(0, 1, 1, 1);
        x.link(0, 0, 1, 0, 1, 0);
        x.drawer(3);
        x.measure(1, 1);
        x.forget();
        x.clear();
        dueRinged("13: until another is found", x, 0, 2, 5, 1, 1, 0, 0, 0);
        x.cell(0, 1, 2, 2);
        x.ring(300);
        dueRinged("13: another", x, 0, 2, 1, 1, 1, 0, 0, 0);
    }

    private static void ringedOfNoTime() {
        SwingCircuits x = new SwingCircuits();
        x.cell(0, 6, 5, 2);
        x.cell(0, 50, 1, 1);
        x.link(0, 0, 1, 0, 1, 0);
        due("12: ring(300)", x.ring(300), 1);
        dueRinged("13: TIME 0 is by 1", x, 1, 1, 0, 1, 1, 0, 0, 0);
    }

    /** TIMES that are not SPENT may be so far apart that what goes between them has larger terms. */
    private static void ringedBeyondTheBoundOfSpent() {
        SwingCircuits x = new SwingCircuits();
        x.cell(-10, -7, 57, 20);
        x.cell(16, 26, 54, 29);
        x.link(1, 0, 2, 1, 0, 5);
        x.link(1, 0, 2, 0, 0, -19);
        x.link(0, 1, 1, 1, 1, 0);
        x.run(11);
        due("12: ring(300)", x.ring(300), 6);
        due("13: its TIME", x.ringed(2), 504889);
        due("13: by more than 1000000", x.ringed(3), 1108080);
        SwingCircuits y = new SwingCircuits();
        y.cell(-30, -5, 7, 59);
        y.cell(2, 25, 37, 14);
        y.link(0, 1, 2, 0, 2, 0);
        y.link(0, 1, 2, 1, 1, 0);
        y.link(1, 0, 2, 0, 0, 12);
        due("12: ring(300)", y.ring(300), 9);
        due("13: its TIME, more than 1000000", y.ringed(2), 1367565);
        due("13: by", y.ringed(3), 213934);
    }
}
