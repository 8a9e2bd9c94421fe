/** Promises 14 to 21: every boundary that the document names of the DRAWER, of MEASURED ones and of FAULTS. */
public final class PartsBoundaryTest {
    private static final int NONE = SwingCircuits.NONE;
    private static final int MOST = Integer.MAX_VALUE;
    private static final int LEAST = Integer.MIN_VALUE;
    private static final int MILLION = 1000000;
    private static final int[] NO_TERMS = {0, -1, MILLION + 1, LEAST, MOST};
    private static final int[] NO_CELLS_OF_TWO = {-1, 2, 3, 4, LEAST, MOST};

    private static final Checks CHECKS = new Checks();

    public static void main(String[] args) {
        numbersRefused();
        drawerAtItsBounds();
        partsRefused();
        partsOfAnEmptyDrawer();
        termsAtTheirBounds();
        largeTermsAreNoOthers();
        partNotThere();
        waysInTheirOrder();
        measuresRefused();
        measuresAtTheirBounds();
        forgetOfNoneAndOfEight();
        faultsOfNoCell();
        faultNotThere();
        noneMeasuredAllExplain();
        anotherNumberThanIsTold();
        eightyFaults();
        lookingForFaultsChangesNothing();
        fitsOfNoCell();
        noneMeasuredFits();
        fromTheFirstTopOn();
        eachInItsPlace();
        eightMeasured();
        noSecondTop();
        noTimeBetweenTops();
        withinFourHundredEvents();
        faultWithinFourHundredEvents();
        spentAheadOfTheLastTop();
        faultThatIsSpent();
        CHECKS.finish("PartsBoundaryTest");
    }

    private static void due(String call, long got, long want) {
        CHECKS.due(call, got, want);
    }

    private static SwingCircuits one(int low, int high, int rise, int fall) {
        SwingCircuits x = new SwingCircuits();
        x.cell(low, high, rise, fall);
        return x;
    }

    private static void measureTimes(SwingCircuits x, int times, int n, int d) {
        for (int i = 0; i < times; i++) {
            x.measure(n, d);
        }
    }

    // ---- promise 14

    private static void numbersRefused() {
        for (int v : new int[] {0, -1, 61, LEAST, MOST}) {
            View.refused(CHECKS, "14: drawer(" + v + ")", View::busy, x -> x.drawer(v));
            View.refused(CHECKS, "14: drawer(" + v + "), the first", View::empty, x -> x.drawer(v));
        }
        for (int v : new int[] {3, 7, 12}) {
            View.refused(CHECKS, "14: one that it has, " + v, View::busy, x -> x.drawer(v));
        }
        View.refused(CHECKS, "14: the eleventh", View::full, x -> x.drawer(11));
        View.refused(CHECKS, "14: the eleventh, one that it has", View::full, x -> x.drawer(10));
    }

    private static void drawerAtItsBounds() {
        SwingCircuits x = one(0, 1, 1, 1);
        x.run(3);
        due("14: the least number", x.drawer(1), 1);
        due("14: the greatest", x.drawer(60), 2);
        for (int i = 3; i <= 10; i++) {
            due("14: number " + i, x.drawer(i), i);
        }
        due("14: the eleventh", x.drawer(11), NONE);
        due("14: so many", x.count(6), 10);
        due("14: no RESET", x.count(2), 3);
        x.clear();
        x.reset();
        x.forget();
        due("14: it stays", x.count(6), 10);
        due("14: and full", x.drawer(11), NONE);
    }

    // ---- promises 15 and 16

    private static void partsRefused() {
        for (int cell : NO_CELLS_OF_TWO) {
            View.refused(CHECKS, "15: cell " + cell, View::busy, x -> x.parts(cell, 4, 1));
            View.refused(CHECKS, "16: cell " + cell, View::busy, x -> x.part(cell, 4, 1, 0));
        }
        for (int t : NO_TERMS) {
            View.refused(CHECKS, "15: n " + t, View::busy, x -> x.parts(0, t, 1));
            View.refused(CHECKS, "15: d " + t, View::busy, x -> x.parts(0, 1, t));
            View.refused(CHECKS, "15: n and d " + t, View::busy, x -> x.parts(0, t, t));
            View.refused(CHECKS, "16: n " + t, View::busy, x -> x.part(0, t, 1, 0));
            View.refused(CHECKS, "16: d " + t, View::busy, x -> x.part(0, 1, t, 0));
        }
        View.refused(CHECKS, "15: no cell", View::empty, x -> x.parts(0, 1, 1));
        View.refused(CHECKS, "16: no cell", View::empty, x -> x.part(0, 1, 1, 0));
        View.refused(CHECKS, "15: cell 4 of four", View::full, x -> x.parts(4, 1, 1));
    }

    private static void partsOfAnEmptyDrawer() {
        SwingCircuits x = one(0, 1, 1, 1);
        due("15: its own beat, but an empty drawer", x.parts(0, 2, 1), 0);
        due("16: none", x.part(0, 2, 1, 0), NONE);
        x.drawer(1);
        due("15: one number for both", x.parts(0, 2, 1), 1);
        due("16: one number for both", x.part(0, 2, 1, 0), 101);
    }

    private static void termsAtTheirBounds() {
        SwingCircuits x = one(0, 1, 7, 7);
        x.drawer(2);
        x.drawer(60);
        due("15: n and d at most", x.parts(0, MILLION, MILLION), 1);
        due("15: n and d at least", x.parts(0, 1, 1), 1);
        due("16: n and d at most", x.part(0, MILLION, MILLION, 0), 202);
        due("15: the least beat", x.parts(0, 1, 30), 1);
        due("16: the least beat", x.part(0, 33333, 999990, 0), 6060);
        due("15: less", x.parts(0, 1, MILLION), 0);
        due("15: just less than a beat", x.parts(0, MILLION - 1, MILLION), 0);
        due("15: just more than a beat", x.parts(0, MILLION, MILLION - 1), 0);
        SwingCircuits y = one(-50, 50, 7, 7);
        y.drawer(1);
        due("15: the greatest beat", y.parts(0, 200, 1), 1);
        due("15: the greatest beat, n at most", y.parts(0, MILLION, 5000), 1);
        due("15: more", y.parts(0, MILLION, 1), 0);
    }

    /** 11600 times d and 3363 times n are the same in 32 bits, but not the same. */
    private static void largeTermsAreNoOthers() {
        SwingCircuits x = one(-50, 50, 1, 1);
        x.drawer(59);
        x.drawer(57);
        due("15: the beat itself", x.parts(0, 11600, 3363), 2);
        due("15: it by large terms", x.parts(0, 11600 * 86, 3363 * 86), 2);
        due("15: another by large terms", x.parts(0, 1408, 370664), 0);
    }

    private static void partNotThere() {
        SwingCircuits x = one(0, 6, 1, 1);
        x.drawer(3);
        x.drawer(2);
        x.drawer(6);
        due("15: three ways", x.parts(0, 4, 1), 3);
        due("16: the last", x.part(0, 4, 1, 2), 602);
        for (int i : new int[] {-1, 3, 4, 99, 100, LEAST, MOST}) {
            due("16: part " + i + " of three", x.part(0, 4, 1, i), NONE);
            due("16: part " + i + " of none", x.part(0, 7, 1, i), NONE);
        }
        due("16: the first of none", x.part(0, 7, 1, 0), NONE);
    }

    /** By RISE, then FALL, as they stand in the DRAWER, whatever their size. */
    private static void waysInTheirOrder() {
        SwingCircuits x = one(0, 12, 1, 1);
        int[] numbers = {60, 4, 30, 12, 20, 3, 6, 15, 10, 5};
        for (int v : numbers) {
            x.drawer(v);
        }
        int[] want = {412, 1204, 606};
        due("15: a beat of 4", x.parts(0, 4, 1), want.length);
        for (int i = 0; i < want.length; i++) {
            due("16: a beat of 4, " + i, x.part(0, 4, 1, i), want[i]);
        }
        int[] more = {6015, 3020, 2030, 1560};
        due("15: a beat of 1", x.parts(0, 1, 1), more.length);
        for (int i = 0; i < more.length; i++) {
            due("16: a beat of 1, " + i, x.part(0, 1, 1, i), more[i]);
        }
    }

    // ---- promises 17 and 18

    private static void measuresRefused() {
        for (int t : NO_TERMS) {
            View.refused(CHECKS, "17: n " + t, View::busy, x -> x.measure(t, 1));
            View.refused(CHECKS, "17: d " + t, View::busy, x -> x.measure(1, t));
            View.refused(CHECKS, "17: n and d " + t, View::empty, x -> x.measure(t, t));
        }
        View.refused(CHECKS, "17: the ninth", View::full, x -> x.measure(3, 1));
    }

    private static void measuresAtTheirBounds() {
        SwingCircuits x = one(0, 1, 2, 2);
        x.run(3);
        due("17: n and d at most", x.measure(MILLION, MILLION), 1);
        due("17: n and d at least", x.measure(1, 1), 2);
        due("21: both are its beat", x.fits(0), 1);
        due("17: the least", x.measure(1, MILLION), 3);
        due("21: not its beat", x.fits(0), 0);
        due("17: the greatest", x.measure(MILLION, 1), 4);
        for (int i = 5; i <= 8; i++) {
            due("17: number " + i, x.measure(1, 1), i);
        }
        due("17: the ninth", x.measure(1, 1), NONE);
        due("8: so many", x.count(7), 8);
        due("17: no RESET", x.count(2), 3);
        x.clear();
        x.reset();
        due("17: they stay", x.count(7), 8);
    }

    private static void forgetOfNoneAndOfEight() {
        View.unchanged(CHECKS, "18: forget() of none", View::empty, x -> x.forget(), 0);
        SwingCircuits x = View.full();
        due("18: forget() of eight", x.forget(), 8);
        due("18: no RESET", x.count(2), 3);
        due("18: the drawer stays", x.count(6), 10);
        due("18: forget() again", x.forget(), 0);
        due("17: a first one again", x.measure(3, 1), 1);
    }

    // ---- promises 19 and 20

    private static void faultsOfNoCell() {
        for (int cell : NO_CELLS_OF_TWO) {
            View.refused(CHECKS, "19: cell " + cell, View::busy, x -> x.faults(cell));
            View.refused(CHECKS, "20: cell " + cell, View::busy, x -> x.fault(cell, 0));
        }
        View.refused(CHECKS, "19: no cell", View::empty, x -> x.faults(0));
        View.refused(CHECKS, "20: no cell", View::empty, x -> x.fault(0, 0));
        View.refused(CHECKS, "19: cell 4 of four", View::full, x -> x.faults(4));
        View.refused(CHECKS, "20: cell 4 of four", View::full, x -> x.fault(4, 0));
    }

    private static void faultNotThere() {
        SwingCircuits x = one(0, 12, 6, 4);
        x.drawer(12);
        x.drawer(6);
        x.measure(4, 1);
        due("19: two", x.faults(0), 2);
        due("20: the last", x.fault(0, 1), 106);
        for (int i : new int[] {-1, 2, 3, 79, 80, LEAST, MOST}) {
            due("20: fault " + i + " of two", x.fault(0, i), NONE);
        }
        x.measure(9, 1);
        due("19: none", x.faults(0), 0);
        for (int i : new int[] {-1, 0, 1, LEAST, MOST}) {
            due("20: fault " + i + " of none", x.fault(0, i), NONE);
        }
    }

    private static void noneMeasuredAllExplain() {
        SwingCircuits x = View.full();
        due("19: what is measured is so with a fault elsewhere", x.faults(0) < 72 ? 1 : 0, 1);
        x.forget();
        due("19: all, nine numbers for each of eight", x.faults(0), 72);
        due("19: at each cell", x.faults(3), 72);
        due("20: the first", x.fault(0, 0), 1);
        due("20: the fourth, not 4", x.fault(0, 3), 5);
        due("20: the last", x.fault(0, 71), 3110);
        due("20: behind the last", x.fault(0, 72), NONE);
    }

    private static void anotherNumberThanIsTold() {
        SwingCircuits x = one(0, 6, 3, 2);
        due("19: an empty drawer", x.faults(0), 0);
        due("20: an empty drawer", x.fault(0, 0), NONE);
        x.drawer(3);
        due("19: the number of its rise", x.faults(0), 1);
        due("20: for its fall alone", x.fault(0, 0), 103);
        x.set(0, 1, 3);
        due("19: the number of both", x.faults(0), 0);
        due("20: none", x.fault(0, 0), NONE);
        x.set(0, 0, 4);
        due("19: not of its rise any more", x.faults(0), 1);
        due("20: for its rise", x.fault(0, 0), 3);
        SwingCircuits y = one(0, 6, 3, 2);
        y.drawer(3);
        y.measure(5, 1);
        due("21: as it is told", y.fits(0), 1);
        due("19: that is no fault", y.faults(0), 0);
    }

    private static void eightyFaults() {
        SwingCircuits x = new SwingCircuits();
        for (int i = 0; i < 4; i++) {
            x.cell(0, 1, 1, 2);
        }
        for (int v = 60; v > 50; v--) {
            x.drawer(v);
        }
        due("19: four cells, two rates, ten numbers", x.faults(2), 80);
        due("20: the first", x.fault(2, 0), 60);
        due("20: the last rise of cell 0", x.fault(2, 9), 51);
        due("20: the first fall of cell 0", x.fault(2, 10), 160);
        due("20: the first of cell 1", x.fault(2, 20), 1060);
        due("20: the last", x.fault(2, 79), 3151);
        due("20: behind the last", x.fault(2, 80), NONE);
    }

    private static void lookingForFaultsChangesNothing() {
        View.unchanged(CHECKS, "19: faults(0)", View::busy, x -> x.faults(0), View.busy().faults(0));
        View.unchanged(CHECKS, "19: faults(1)", View::full, x -> x.faults(1), View.full().faults(1));
        View.unchanged(CHECKS, "20: fault(0, 0)", View::busy, x -> x.fault(0, 0), View.busy().fault(0, 0));
        View.unchanged(CHECKS, "21: fits(1)", View::full, x -> x.fits(1), 1);
        View.unchanged(CHECKS, "15: parts(0, 5, 1)", View::busy, x -> x.parts(0, 5, 1), 0);
    }

    // ---- promise 21

    private static void fitsOfNoCell() {
        for (int cell : NO_CELLS_OF_TWO) {
            View.refused(CHECKS, "21: cell " + cell, View::busy, x -> x.fits(cell));
        }
        View.refused(CHECKS, "21: no cell", View::empty, x -> x.fits(0));
        View.refused(CHECKS, "21: cell 4 of four", View::full, x -> x.fits(4));
    }

    private static void noneMeasuredFits() {
        SwingCircuits x = one(0, 1, 1, 1);
        due("21: none measured", x.fits(0), 1);
        x.measure(3, 1);
        due("21: one that is not so", x.fits(0), 0);
        x.forget();
        due("21: none any more", x.fits(0), 1);
    }

    /** The TIME up to the first TOP is no MEASURED one. */
    private static void fromTheFirstTopOn() {
        SwingCircuits x = one(0, 6, 3, 2);
        x.measure(2, 1);
        due("21: up to the first top", x.fits(0), 0);
        x.forget();
        x.measure(5, 1);
        due("21: from there on", x.fits(0), 1);
        x.run(1);
        due("21: behind RESET, wherever it is", x.fits(0), 1);
    }

    /** The second TOP kicks the CELL down: 4 between the first two, then 2. */
    private static void eachInItsPlace() {
        SwingCircuits x = one(0, 2, 1, 1);
        x.link(0, 0, 2, 0, 0, -20);
        x.link(0, 0, 2, 0, 2, 0);
        x.measure(4, 1);
        x.measure(2, 1);
        x.measure(4, 1);
        due("21: 4, 2, 4", x.fits(0), 1);
        x.measure(4, 1);
        due("21: 4, 2, 4, 4", x.fits(0), 0);
        x.forget();
        x.measure(2, 1);
        x.measure(4, 1);
        due("21: 2, 4", x.fits(0), 0);
    }

    private static void eightMeasured() {
        SwingCircuits x = one(0, 6, 3, 2);
        x.drawer(6);
        measureTimes(x, 8, 4, 1);
        due("21: eight, not so", x.fits(0), 0);
        due("19: eight, so with a fault", x.faults(0), 1);
        due("20: eight, so with a fault", x.fault(0, 0), 6);
        x.forget();
        measureTimes(x, 7, 4, 1);
        x.measure(3, 1);
        due("19: the eighth is not so", x.faults(0), 0);
        x.forget();
        measureTimes(x, 7, 5, 1);
        x.measure(4, 1);
        due("21: the eighth is not so", x.fits(0), 0);
    }

    /** Cell 1 is set to empty at each TOP of cell 0, and has no TOP, or one, and no second one. */
    private static void noSecondTop() {
        SwingCircuits x = one(0, 1, 1, 1);
        x.cell(0, 50, 1, 1);
        x.link(0, 0, 1, 1, 2, 1);
        due("21: no top, none measured", x.fits(1), 1);
        x.measure(1, 1);
        due("21: no top", x.fits(1), 0);
        x.drawer(50);
        due("19: no top, but by a fault", x.faults(1), 0);
        SwingCircuits y = one(0, 3, 1, 1);
        y.cell(0, 50, 50, 50);
        y.link(1, 0, 1, 1, 2, 1);
        y.link(1, 1, 1, 1, 2, 1);
        y.measure(2, 1);
        due("21: one top, then a bottom for ever", y.fits(1), 0);
    }

    /** 0 between its TOPS: nothing that can be MEASURED. */
    private static void noTimeBetweenTops() {
        SwingCircuits x = one(0, 6, 5, 2);
        x.link(0, 0, 1, 0, 1, 0);
        due("21: none measured", x.fits(0), 1);
        x.measure(1, MILLION);
        due("21: however little", x.fits(0), 0);
        x.drawer(3);
        due("19: however little", x.faults(0), 0);
    }

    /** Cell 1 has an EVENT each half unit: the second TOP of cell 0 is the 400th EVENT, or the 401st. */
    private static void withinFourHundredEvents() {
        SwingCircuits x = one(-49, 48, 1, 20);
        x.cell(0, 1, 2, 2);
        x.measure(2037, 20);
        due("21: the 400th", x.fits(0), 1);
        x.run(400);
        due("11: the 400th is a top", x.event(399, 1), 0);
        due("11: of cell 0", x.event(399, 0), 0);
        due("9: its second", x.of(0, 3), 2);
        SwingCircuits y = one(-49, 49, 1, 30);
        y.cell(0, 1, 2, 2);
        y.measure(1519, 15);
        due("21: the 401st", y.fits(0), 0);
        y.run(401);
        due("11: the 401st is a top", y.event(400, 1), 0);
        due("11: of cell 0", y.event(400, 0), 0);
        due("9: its second", y.of(0, 3), 2);
    }

    private static void faultWithinFourHundredEvents() {
        SwingCircuits x = one(-49, 48, 1, 30);
        x.cell(0, 1, 2, 2);
        x.drawer(20);
        x.measure(2037, 20);
        due("21: not as it is told", x.fits(0), 0);
        due("19: the 400th", x.faults(0), 1);
        due("20: the 400th", x.fault(0, 0), 120);
        SwingCircuits y = one(-49, 49, 1, 60);
        y.cell(0, 1, 2, 2);
        y.drawer(30);
        y.measure(1519, 15);
        due("19: the 401st", y.faults(0), 0);
        due("20: the 401st", y.fault(0, 0), NONE);
    }

    /** Behind the second TOP of cell 0 the next EVENT is SPENT; its beat would be the same without an end. */
    private static void spentAheadOfTheLastTop() {
        SwingCircuits x = one(0, 10, 57, 35);
        x.cell(0, 11, 47, 52);
        x.measure(184, 399);
        due("21: spent only behind the second top", x.fits(0), 1);
        x.measure(184, 399);
        due("21: spent ahead of the third", x.fits(0), 0);
        due("7: five events", x.run(500), 5);
        due("9: the last is the second top", x.of(0, 3), 2);
        SwingCircuits alone = one(0, 10, 57, 35);
        measureTimes(alone, 8, 184, 399);
        due("21: without the other cell", alone.fits(0), 1);
    }

    private static void faultThatIsSpent() {
        SwingCircuits x = one(0, 10, 57, 35);
        x.cell(0, 11, 57, 52);
        x.drawer(47);
        x.measure(184, 399);
        due("19: spent only behind the second top", x.faults(0), 2);
        due("20: rise of cell 1", x.fault(0, 0), 1047);
        due("20: fall of cell 1", x.fault(0, 1), 1147);
        x.measure(184, 399);
        due("19: with that rise spent ahead of the third", x.faults(0), 1);
        due("20: but not with that fall", x.fault(0, 0), 1147);
    }
}
