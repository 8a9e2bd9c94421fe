/** For each promise of the document: ordinary inputs, the edges that it names, and wrong inputs. */
public final class PromiseTest {
    private static final int NONE = SwingCircuits.NONE;
    private static final int NO_RING = -2;
    private static final int RING_SPENT = -3;

    private static final Checks CHECKS = new Checks();

    public static void main(String[] args) {
        newObject();
        cells();
        cellsStartAgain();
        links();
        linksActInOrder();
        linksCount();
        clearing();
        resetting();
        setting();
        running();
        spentByTime();
        counting();
        askingOfCells();
        countedLinks();
        eventsKept();
        tiesAndKicks();
        rings();
        ringsFromHere();
        ringsOfNoTime();
        ringsNotFound();
        drawing();
        partsForABeat();
        measuring();
        forgetting();
        faultsThatExplain();
        faultsOfOtherCells();
        faultsNeedEnoughEvents();
        fitting();
        CHECKS.finish("PromiseTest");
    }

    private static void due(String call, long got, long want) {
        CHECKS.due(call, got, want);
    }

    private static long[] counts(SwingCircuits x) {
        long[] row = new long[8];
        for (int i = 0; i < 8; i++) {
            row[i] = x.count(i);
        }
        return row;
    }

    private static long[] cellNow(SwingCircuits x, int cell) {
        long[] row = new long[5];
        for (int i = 0; i < 5; i++) {
            row[i] = x.of(cell, i);
        }
        return row;
    }

    private static long[] eventOf(SwingCircuits x, int i) {
        return new long[] {x.event(i, 0), x.event(i, 1), x.event(i, 2), x.event(i, 3)};
    }

    private static long[] ringNow(SwingCircuits x) {
        long[] row = new long[8];
        for (int i = 0; i < 8; i++) {
            row[i] = x.ringed(i);
        }
        return row;
    }

    // Promise 1
    private static void newObject() {
        SwingCircuits x = new SwingCircuits();
        CHECKS.dueAll("1: counts of a new object", counts(x), 0, 0, 0, 0, 1, 0, 0, 0);
        CHECKS.ofThrows(x, 0, 0);
        due("1: counted(0)", x.counted(0), NONE);
        due("1: event(0, 0)", x.event(0, 0), NONE);
        due("1: reset()", x.reset(), 0);
        due("1: clear()", x.clear(), 0);
        due("1: forget()", x.forget(), 0);
        due("1: ringed(0)", x.ringed(0), NONE);
        due("1: link to no cell", x.link(0, 0, 1, 0, 0, 0), NONE);
        due("1: NONE", SwingCircuits.NONE, -1);
    }

    // Promise 2
    private static void cells() {
        SwingCircuits x = new SwingCircuits();
        due("2: bars alike", x.cell(3, 3, 1, 1), NONE);
        due("2: bars the other way round", x.cell(4, 3, 1, 1), NONE);
        due("2: low -51", x.cell(-51, 0, 1, 1), NONE);
        due("2: high 51", x.cell(0, 51, 1, 1), NONE);
        due("2: high far up", x.cell(0, Integer.MAX_VALUE, 1, 1), NONE);
        due("2: low far down", x.cell(Integer.MIN_VALUE, 0, 1, 1), NONE);
        due("2: rise 0", x.cell(0, 1, 0, 1), NONE);
        due("2: rise 61", x.cell(0, 1, 61, 1), NONE);
        due("2: fall 0", x.cell(0, 1, 1, 0), NONE);
        due("2: fall 61", x.cell(0, 1, 1, 61), NONE);
        due("2: cells", x.count(0), 0);
        due("2: least and most", x.cell(-50, 50, 1, 60), 0);
        due("2: most and least", x.cell(-50, -49, 60, 1), 1);
        due("2: third", x.cell(49, 50, 60, 60), 2);
        due("2: fourth", x.cell(-1, 1, 1, 1), 3);
        due("2: fifth", x.cell(0, 1, 1, 1), NONE);
        due("2: cells", x.count(0), 4);
        CHECKS.dueAll("2: cell 1 starts", cellNow(x, 1), -50, 1, 1, 0, 0);
        CHECKS.dueAll("2: cell 2 starts", cellNow(x, 2), 49, 1, 1, 0, 0);
    }

    private static void cellsStartAgain() {
        SwingCircuits x = new SwingCircuits();
        x.cell(0, 6, 3, 2);
        x.run(3);
        due("2: a refused cell changes nothing", x.cell(0, 0, 1, 1), NONE);
        CHECKS.dueAll("2: counts behind it", counts(x), 1, 0, 3, 7, 1, 0, 0, 0);
        due("2: a told cell", x.cell(0, 5, 1, 1), 1);
        CHECKS.dueAll("2: it starts again", counts(x), 2, 0, 0, 0, 1, 0, 0, 0);
        CHECKS.dueAll("2: cell 0 starts again", cellNow(x, 0), 0, 1, 1, 0, 0);
    }

    // Promise 3
    private static void links() {
        SwingCircuits x = new SwingCircuits();
        x.cell(0, 6, 3, 2);
        x.cell(0, 10, 1, 1);
        x.run(2);
        due("3: from -1", x.link(-1, 0, 1, 0, 0, 0), NONE);
        due("3: from 2", x.link(2, 0, 1, 0, 0, 0), NONE);
        due("3: to -1", x.link(0, 0, 1, -1, 0, 0), NONE);
        due("3: to 2", x.link(0, 0, 1, 2, 0, 0), NONE);
        due("3: at -1", x.link(0, -1, 1, 0, 0, 0), NONE);
        due("3: at 2", x.link(0, 2, 1, 0, 0, 0), NONE);
        due("3: n 0", x.link(0, 0, 0, 0, 0, 0), NONE);
        due("3: n 10", x.link(0, 0, 10, 0, 0, 0), NONE);
        due("3: act -1", x.link(0, 0, 1, 0, -1, 0), NONE);
        due("3: act 3", x.link(0, 0, 1, 0, 3, 0), NONE);
        due("3: kick 21", x.link(0, 0, 1, 0, 0, 21), NONE);
        due("3: kick -21", x.link(0, 0, 1, 0, 0, -21), NONE);
        due("3: set 2", x.link(0, 0, 1, 0, 2, 2), NONE);
        due("3: set -1", x.link(0, 0, 1, 0, 2, -1), NONE);
        CHECKS.dueAll("3: nothing changed", counts(x), 2, 0, 2, 5, 1, 0, 0, 0);
        due("3: kick 20", x.link(0, 0, 1, 0, 0, 20), 0);
        CHECKS.dueAll("3: it starts again", counts(x), 2, 1, 0, 0, 1, 0, 0, 0);
        due("3: kick -20", x.link(0, 1, 9, 1, 0, -20), 1);
        due("3: turn, k least", x.link(1, 0, 9, 1, 1, Integer.MIN_VALUE), 2);
        due("3: turn, k most", x.link(1, 1, 9, 0, 1, Integer.MAX_VALUE), 3);
        due("3: set 0", x.link(1, 1, 1, 0, 2, 0), 4);
        due("3: set 1", x.link(1, 1, 1, 0, 2, 1), 5);
        due("3: seventh", x.link(1, 1, 1, 0, 0, 0), 6);
        due("3: eighth", x.link(1, 1, 1, 0, 0, 0), 7);
        x.run(1);
        due("3: ninth", x.link(1, 1, 1, 0, 0, 0), NONE);
        due("3: links", x.count(1), 8);
        due("3: events behind the ninth", x.count(2), 1);
    }

    /** All acts at one TOP, by their numbers: the later finds what the earlier left. */
    private static void linksActInOrder() {
        SwingCircuits x = new SwingCircuits();
        x.cell(0, 4, 2, 2);
        x.cell(-10, 10, 1, 3);
        x.link(0, 0, 1, 1, 0, 20);
        x.link(0, 0, 1, 1, 0, -5);
        x.link(0, 0, 1, 1, 2, 1);
        x.link(0, 0, 1, 1, 1, 0);
        x.link(0, 1, 1, 1, 1, 0);
        x.run(1);
        CHECKS.dueAll("3: -8, 10 at most, 5; emptying, filling", cellNow(x, 1), 5, 1, 1, 0, 0);
        CHECKS.dueAll("3: cell 0 at its top", cellNow(x, 0), 4, 1, 0, 1, 0);
        x.run(1);
        CHECKS.dueAll("3: turned at the bottom of 0", cellNow(x, 1), 7, 1, 0, 0, 0);
        x.run(1);
        CHECKS.dueAll("3: 1, 10 at most, 5", cellNow(x, 1), 5, 1, 1, 0, 0);
        x.link(0, 0, 1, 1, 0, -20);
        x.link(0, 0, 1, 0, 2, 0);
        x.run(1);
        CHECKS.dueAll("3: -15, -10 at least", cellNow(x, 1), -10, 1, 1, 0, 0);
        CHECKS.dueAll("3: cell 0 set filling at its top", cellNow(x, 0), 4, 1, 1, 1, 0);
        x.run(1);
        CHECKS.dueAll("3: a top again, at once", eventOf(x, 1), 0, 0, 2, 1);
    }

    private static void linksCount() {
        SwingCircuits x = new SwingCircuits();
        x.cell(0, 4, 2, 2);
        x.link(0, 0, 3, 0, 0, -2);
        x.link(0, 1, 2, 0, 2, 1);
        x.run(4);
        CHECKS.dueAll("3: the second bottom sets it emptying at 0", cellNow(x, 0), 0, 1, 0, 2, 2);
        x.run(1);
        CHECKS.dueAll("3: a bottom at once", eventOf(x, 4), 0, 1, 8, 1);
        x.run(1);
        CHECKS.dueAll("3: the third top kicks", cellNow(x, 0), 2, 1, 0, 3, 3);
        due("3: counted(0)", x.counted(0), 0);
        due("3: counted(1)", x.counted(1), 1);
    }

    // Promise 4
    private static void clearing() {
        SwingCircuits x = new SwingCircuits();
        x.cell(0, 6, 3, 2);
        x.cell(2, 6, 3, 2);
        x.link(0, 0, 2, 1, 1, 0);
        x.drawer(7);
        x.measure(1, 2);
        x.run(3);
        due("4: clear()", x.clear(), 2);
        CHECKS.dueAll("4: drawer and measures stay", counts(x), 0, 0, 0, 0, 1, 0, 1, 1);
        CHECKS.ofThrows(x, 0, 0);
        due("4: event(0, 0)", x.event(0, 0), NONE);
        due("4: counted(0)", x.counted(0), NONE);
        due("4: clear() again", x.clear(), 0);
        due("4: numbers from 0 again", x.cell(-3, 6, 3, 3), 0);
        CHECKS.dueAll("4: a new start", cellNow(x, 0), -3, 1, 1, 0, 0);
        due("4: run(5)", x.run(5), 5);
        due("4: TIME without the old cells and links", x.count(3), 15);
    }

    // Promise 5
    private static void resetting() {
        SwingCircuits x = new SwingCircuits();
        x.cell(-2, 6, 3, 5);
        x.link(0, 0, 3, 0, 0, -1);
        x.drawer(7);
        x.measure(1, 2);
        x.run(4);
        due("5: reset()", x.reset(), 4);
        CHECKS.dueAll("5: counts", counts(x), 1, 1, 0, 0, 1, 0, 1, 1);
        CHECKS.dueAll("5: cell", cellNow(x, 0), -2, 1, 1, 0, 0);
        due("5: counted(0)", x.counted(0), 0);
        due("5: event(0, 0)", x.event(0, 0), NONE);
        due("5: reset() again", x.reset(), 0);
        x.run(500);
        x.run(3);
        due("5: more than are kept", x.reset(), 503);
    }

    // Promise 6
    private static void setting() {
        SwingCircuits x = new SwingCircuits();
        x.cell(0, 6, 3, 2);
        x.cell(0, 6, 4, 5);
        x.run(2);
        due("6: what -1", x.set(0, -1, 5), NONE);
        due("6: what 2", x.set(0, 2, 5), NONE);
        due("6: cell -1", x.set(-1, 0, 5), NONE);
        due("6: cell 2", x.set(2, 0, 5), NONE);
        due("6: v 0", x.set(0, 0, 0), NONE);
        due("6: v 61", x.set(0, 1, 61), NONE);
        due("6: events behind refused ones", x.count(2), 2);
        due("6: rise", x.set(0, 0, 60), 3);
        due("6: events", x.count(2), 0);
        due("6: fall", x.set(0, 1, 1), 2);
        due("6: rise again", x.set(0, 0, 12), 60);
        due("6: fall again", x.set(0, 1, 6), 1);
        due("6: rise of the other", x.set(1, 0, 6), 4);
        due("6: fall of the other", x.set(1, 1, 6), 5);
        x.run(3);
        CHECKS.dueAll("6: top by the new rise", eventOf(x, 0), 0, 0, 1, 2);
        CHECKS.dueAll("6: top of the other", eventOf(x, 1), 1, 0, 1, 1);
        CHECKS.dueAll("6: bottom by the new fall", eventOf(x, 2), 0, 1, 3, 2);
        due("6: the same number", x.set(0, 0, 12), 12);
        due("6: starts again, too", x.count(2), 0);
    }

    // Promise 7
    private static void running() {
        SwingCircuits x = new SwingCircuits();
        due("7: no cell", x.run(5), 0);
        due("7: no cell, none asked", x.run(0), 0);
        due("7: no cell, too many", x.run(501), NONE);
        x.cell(0, 6, 3, 2);
        x.cell(0, 10, 4, 10);
        due("7: -1", x.run(-1), NONE);
        due("7: 501", x.run(501), NONE);
        due("7: least", x.run(Integer.MIN_VALUE), NONE);
        due("7: 0", x.run(0), 0);
        due("7: events", x.count(2), 0);
        due("7: 4", x.run(4), 4);
        CHECKS.dueAll("7: event 0", eventOf(x, 0), 0, 0, 2, 1);
        CHECKS.dueAll("7: event 1", eventOf(x, 1), 1, 0, 5, 2);
        CHECKS.dueAll("7: event 2", eventOf(x, 2), 1, 1, 7, 2);
        CHECKS.dueAll("7: event 3", eventOf(x, 3), 0, 1, 5, 1);
        CHECKS.dueAll("7: cell 1 then", cellNow(x, 1), 6, 1, 1, 1, 1);
        due("7: 500", x.run(500), 500);
        due("7: events", x.count(2), 504);
    }

    private static void spentByTime() {
        SwingCircuits x = new SwingCircuits();
        x.cell(-50, 50, 1, 1);
        for (int i = 0; i < 19; i++) {
            due("7: run(500)", x.run(500), 500);
        }
        due("7: run(499)", x.run(499), 499);
        due("7: not spent yet", x.count(5), 0);
        due("7: run(500) up to a numerator of 1000000", x.run(500), 1);
        CHECKS.dueAll("7: counts", counts(x), 1, 0, 10000, 1000000, 1, 1, 0, 0);
        CHECKS.dueAll("7: cell", cellNow(x, 0), -50, 1, 1, 5000, 5000);
        due("7: nothing goes on", x.run(1), 0);
        due("7: no ring", x.ring(2), RING_SPENT);
        CHECKS.dueAll("7: nothing changed", counts(x), 1, 0, 10000, 1000000, 1, 1, 0, 0);
        CHECKS.dueAll("11: the last that is kept", eventOf(x, 499), 0, 1, 50000, 1);
        due("11: the first that is not", x.event(500, 0), NONE);
        due("5: reset()", x.reset(), 10000);
        due("8: not spent any more", x.count(5), 0);
    }

    // Promise 8
    private static void counting() {
        SwingCircuits x = new SwingCircuits();
        x.cell(0, 1, 7, 3);
        x.cell(0, 50, 1, 1);
        x.link(0, 0, 1, 1, 0, 1);
        x.drawer(9);
        x.drawer(8);
        x.measure(4, 6);
        x.run(3);
        CHECKS.dueAll("8: counts", counts(x), 2, 1, 3, 13, 21, 0, 2, 1);
        due("8: what -1", x.count(-1), NONE);
        due("8: what 8", x.count(8), NONE);
        due("8: what least", x.count(Integer.MIN_VALUE), NONE);
        due("8: events behind looking ahead", x.count(2), 3);
        CHECKS.dueAll("8: cell 1 behind looking ahead", cellNow(x, 1), 55, 21, 1, 0, 0);
    }

    // Promise 9
    private static void askingOfCells() {
        SwingCircuits x = new SwingCircuits();
        x.cell(-1, 5, 4, 8);
        x.cell(-7, 50, 9, 1);
        due("9: beat of 0", x.of(0, 5), 9);
        due("9: by", x.of(0, 6), 4);
        due("9: beat of 1", x.of(1, 5), 190);
        due("9: by", x.of(1, 6), 3);
        x.run(3);
        CHECKS.dueAll("9: cell 0", cellNow(x, 0), 5, 1, 0, 2, 1);
        CHECKS.dueAll("9: cell 1", cellNow(x, 1), 107, 4, 1, 0, 0);
        due("9: beat does not change", x.of(0, 5), 9);
        x.run(2);
        CHECKS.dueAll("9: cell 1, whole again", cellNow(x, 1), 47, 1, 1, 0, 0);
        CHECKS.ofThrows(x, -1, 0);
        CHECKS.ofThrows(x, 2, 0);
        CHECKS.ofThrows(x, 4, 0);
        CHECKS.ofThrows(x, Integer.MAX_VALUE, 5);
        CHECKS.ofThrows(x, 0, -1);
        CHECKS.ofThrows(x, 0, 7);
        CHECKS.ofThrows(x, 0, Integer.MIN_VALUE);
        SwingCircuits y = new SwingCircuits();
        y.cell(-50, 50, 1, 1);
        y.cell(0, 1, 3, 3);
        y.run(1);
        CHECKS.dueAll("9: a level below 0", cellNow(y, 0), -149, 3, 1, 0, 0);
    }

    // Promise 10
    private static void countedLinks() {
        SwingCircuits x = new SwingCircuits();
        x.cell(0, 4, 2, 2);
        x.link(0, 0, 9, 0, 0, 0);
        x.link(0, 1, 3, 0, 0, 0);
        due("10: at first", x.counted(0), 0);
        x.run(5);
        due("10: three tops", x.counted(0), 3);
        due("10: two bottoms", x.counted(1), 2);
        x.run(1);
        due("10: the third bottom", x.counted(1), 0);
        x.run(10);
        due("10: eight tops", x.counted(0), 8);
        x.run(1);
        due("10: nine", x.counted(0), 0);
        due("10: -1", x.counted(-1), NONE);
        due("10: 2", x.counted(2), NONE);
        due("10: 8", x.counted(8), NONE);
        due("10: most", x.counted(Integer.MAX_VALUE), NONE);
    }

    // Promise 11
    private static void eventsKept() {
        SwingCircuits x = new SwingCircuits();
        x.cell(0, 1, 2, 3);
        x.run(3);
        CHECKS.dueAll("11: event 0", eventOf(x, 0), 0, 0, 1, 2);
        CHECKS.dueAll("11: event 1", eventOf(x, 1), 0, 1, 5, 6);
        CHECKS.dueAll("11: event 2", eventOf(x, 2), 0, 0, 4, 3);
        due("11: event 3", x.event(3, 0), NONE);
        due("11: event -1", x.event(-1, 0), NONE);
        due("11: what -1", x.event(0, -1), NONE);
        due("11: what 4", x.event(0, 4), NONE);
        due("11: most", x.event(Integer.MAX_VALUE, 0), NONE);
        x.run(500);
        CHECKS.dueAll("11: event 499", eventOf(x, 499), 0, 1, 625, 3);
        due("11: event 500", x.event(500, 2), NONE);
        x.reset();
        due("11: behind RESET", x.event(0, 0), NONE);
    }

    private static void tiesAndKicks() {
        SwingCircuits x = new SwingCircuits();
        x.cell(0, 6, 2, 6);
        x.cell(0, 3, 1, 3);
        x.link(0, 0, 1, 1, 0, 1);
        x.link(1, 0, 1, 0, 0, -1);
        x.run(4);
        CHECKS.dueAll("11: of equal ones the least cell", eventOf(x, 0), 0, 0, 3, 1);
        CHECKS.dueAll("11: then the other, at the same time", eventOf(x, 1), 1, 0, 3, 1);
        CHECKS.dueAll("11: kicked down by one", eventOf(x, 2), 0, 1, 23, 6);
        CHECKS.dueAll("11: the other", eventOf(x, 3), 1, 1, 4, 1);
        SwingCircuits y = new SwingCircuits();
        y.cell(0, 6, 2, 6);
        y.cell(0, 10, 1, 1);
        y.link(0, 0, 1, 1, 0, 20);
        y.run(2);
        CHECKS.dueAll("11: kicked to its high bar while filling", eventOf(y, 1), 1, 0, 3, 1);
    }

    // Promises 12 and 13
    private static void rings() {
        SwingCircuits x = new SwingCircuits();
        due("12: no cell", x.ring(5), NONE);
        x.cell(0, 6, 3, 2);
        x.cell(0, 4, 4, 1);
        due("12: 0", x.ring(0), NONE);
        due("12: 301", x.ring(301), NONE);
        due("12: -1", x.ring(-1), NONE);
        due("13: none yet", x.ringed(1), NONE);
        due("12: too few", x.ring(3), NO_RING);
        due("13: none yet", x.ringed(0), NONE);
        due("12: just enough", x.ring(4), 4);
        CHECKS.dueAll("13: the ring", ringNow(x), 0, 4, 5, 1, 1, 1, 0, 0);
        due("12: most", x.ring(300), 4);
        due("13: what -1", x.ringed(-1), NONE);
        due("13: what 8", x.ringed(8), NONE);
        CHECKS.dueAll("12: nothing changes", counts(x), 2, 0, 0, 0, 1, 0, 0, 0);
        CHECKS.dueAll("12: nor the cell", cellNow(x, 1), 0, 1, 1, 0, 0);
        due("12: a refused one", x.ring(0), NONE);
        due("12: none found", x.ring(2), NO_RING);
        CHECKS.dueAll("13: the latest that found one", ringNow(x), 0, 4, 5, 1, 1, 1, 0, 0);
        x.clear();
        CHECKS.dueAll("13: clear() leaves it", ringNow(x), 0, 4, 5, 1, 1, 1, 0, 0);
        x.cell(0, 1, 2, 3);
        due("12: another", x.ring(300), 2);
        CHECKS.dueAll("13: another", ringNow(x), 0, 2, 5, 6, 1, 0, 0, 0);
    }

    /** A link whose count is part of the STATE, a lead that ends in a ring, and a start in the middle. */
    private static void ringsFromHere() {
        SwingCircuits x = new SwingCircuits();
        x.cell(0, 6, 3, 2);
        x.link(0, 1, 3, 0, 0, 0);
        due("12: three times round for the count", x.ring(300), 6);
        CHECKS.dueAll("13: three tops", ringNow(x), 0, 6, 15, 1, 3, 0, 0, 0);
        x.run(1);
        due("12: from here", x.ring(6), 6);
        CHECKS.dueAll("13: from here", ringNow(x), 0, 6, 15, 1, 3, 0, 0, 0);
        SwingCircuits y = new SwingCircuits();
        y.cell(0, 6, 3, 2);
        y.cell(0, 4, 1, 1);
        y.link(0, 1, 1, 1, 2, 1);
        due("12: with a lead", y.ring(300), 6);
        CHECKS.dueAll("13: with a lead", ringNow(y), 3, 6, 10, 1, 2, 0, 0, 0);
        y.run(1);
        due("12: one later, too few", y.ring(7), NO_RING);
        due("12: one later", y.ring(8), 6);
        CHECKS.dueAll("13: a lead less by one", ringNow(y), 2, 6, 10, 1, 2, 0, 0, 0);
        y.run(40);
        due("12: in the ring", y.ring(6), 6);
        due("13: no lead", y.ringed(0), 0);
    }

    private static void ringsOfNoTime() {
        SwingCircuits x = new SwingCircuits();
        x.cell(0, 6, 5, 2);
        x.link(0, 0, 1, 0, 1, 0);
        due("12: at its top for ever", x.ring(300), 1);
        CHECKS.dueAll("13: no time goes", ringNow(x), 1, 1, 0, 1, 1, 0, 0, 0);
        due("12: not in one", x.ring(1), NO_RING);
        due("7: run(500)", x.run(500), 500);
        due("8: TIME", x.count(3), 6);
        due("8: TIME by", x.count(4), 5);
        due("9: tops", x.of(0, 3), 500);
        due("12: now in one", x.ring(1), 1);
        CHECKS.dueAll("13: no lead", ringNow(x), 0, 1, 0, 1, 1, 0, 0, 0);
    }

    private static void ringsNotFound() {
        SwingCircuits x = new SwingCircuits();
        x.cell(0, 10, 3, 7);
        x.cell(-5, 8, 4, 5);
        x.cell(0, 9, 2, 9);
        x.link(0, 0, 1, 1, 0, 3);
        x.link(1, 1, 2, 2, 1, 0);
        x.link(2, 0, 1, 0, 0, -4);
        x.link(1, 0, 3, 0, 2, 1);
        due("12: not in 46", x.ring(46), NO_RING);
        due("12: the 47th is spent", x.ring(47), RING_SPENT);
        x.run(40);
        due("12: not in 6 more", x.ring(6), NO_RING);
        due("12: the 7th is spent", x.ring(7), RING_SPENT);
        due("13: none", x.ringed(0), NONE);
        due("8: not spent yet", x.count(5), 0);
        due("7: run(500)", x.run(500), 6);
        due("8: spent", x.count(5), 1);
        SwingCircuits y = new SwingCircuits();
        y.cell(0, 1, 1, 1);
        y.link(0, 0, 9, 0, 0, 0);
        y.link(0, 0, 8, 0, 0, 0);
        due("12: counts are the same 72 tops on", y.ring(300), 144);
        y.link(0, 0, 7, 0, 0, 0);
        due("12: now not before 504", y.ring(300), NO_RING);
        CHECKS.dueAll("13: the latest found", ringNow(y), 0, 144, 144, 1, 72, 0, 0, 0);
    }

    // Promise 14
    private static void drawing() {
        SwingCircuits x = new SwingCircuits();
        due("14: 0", x.drawer(0), NONE);
        due("14: 61", x.drawer(61), NONE);
        due("14: -3", x.drawer(-3), NONE);
        due("14: 60", x.drawer(60), 1);
        due("14: 60 again", x.drawer(60), NONE);
        for (int i = 2; i <= 10; i++) {
            due("14: one more", x.drawer(i - 1), i);
        }
        due("14: one that it has", x.drawer(9), NONE);
        due("14: the eleventh", x.drawer(30), NONE);
        due("14: how many", x.count(6), 10);
        x.cell(0, 1, 1, 1);
        x.run(3);
        due("14: refused", x.drawer(31), NONE);
        due("14: no RESET", x.count(2), 3);
        SwingCircuits y = new SwingCircuits();
        y.cell(0, 1, 1, 1);
        y.run(3);
        due("14: told", y.drawer(31), 1);
        due("14: no RESET", y.count(2), 3);
    }

    // Promises 15 and 16
    private static void partsForABeat() {
        SwingCircuits x = new SwingCircuits();
        due("15: no cell", x.parts(0, 1, 1), NONE);
        x.cell(-6, 6, 1, 1);
        due("15: nothing in the drawer", x.parts(0, 24, 1), 0);
        due("16: nothing in the drawer", x.part(0, 24, 1, 0), NONE);
        x.drawer(60);
        x.drawer(4);
        x.drawer(12);
        x.drawer(3);
        x.drawer(6);
        due("15: 4", x.parts(0, 4, 1), 3);
        due("16: 4, first", x.part(0, 4, 1, 0), 412);
        due("16: 4, second", x.part(0, 4, 1, 1), 1204);
        due("16: 4, third", x.part(0, 4, 1, 2), 606);
        due("16: 4, fourth", x.part(0, 4, 1, 3), NONE);
        due("16: -1", x.part(0, 4, 1, -1), NONE);
        due("15: not in lowest terms", x.parts(0, 1000000, 250000), 3);
        due("15: a small one", x.parts(0, 2, 5), 1);
        due("16: one number for both", x.part(0, 2, 5, 0), 6060);
        due("15: none", x.parts(0, 1000000, 1), 0);
        due("15: n 0", x.parts(0, 0, 1), NONE);
        due("15: d 0", x.parts(0, 1, 0), NONE);
        due("15: n 1000001", x.parts(0, 1000001, 1), NONE);
        due("15: d 1000001", x.parts(0, 1, 1000001), NONE);
        due("15: n -4", x.parts(0, -4, -1), NONE);
        due("15: cell 1", x.parts(1, 4, 1), NONE);
        due("15: cell -1", x.parts(-1, 4, 1), NONE);
        due("16: cell 1", x.part(1, 4, 1, 0), NONE);
        due("16: n 0", x.part(0, 0, 1, 0), NONE);
        due("16: d 1000001", x.part(0, 1, 1000001, 0), NONE);
        due("9: the cell stays as it was told", x.of(0, 5), 24);
    }

    // Promise 17
    private static void measuring() {
        SwingCircuits x = new SwingCircuits();
        x.cell(0, 1, 1, 1);
        x.run(3);
        due("17: n 0", x.measure(0, 1), NONE);
        due("17: d 0", x.measure(1, 0), NONE);
        due("17: n 1000001", x.measure(1000001, 1), NONE);
        due("17: d 1000001", x.measure(1, 1000001), NONE);
        due("17: both below 0", x.measure(-1, -1), NONE);
        due("17: how many", x.count(7), 0);
        due("17: most", x.measure(1000000, 1000000), 1);
        for (int i = 2; i <= 8; i++) {
            due("17: one more", x.measure(1, i), i);
        }
        due("17: the ninth", x.measure(1, 1), NONE);
        due("17: how many", x.count(7), 8);
        due("17: no RESET", x.count(2), 3);
    }

    // Promise 18
    private static void forgetting() {
        SwingCircuits x = new SwingCircuits();
        due("18: none", x.forget(), 0);
        x.cell(0, 1, 1, 1);
        x.measure(3, 1);
        x.measure(2, 1);
        x.run(3);
        due("18: two", x.forget(), 2);
        due("18: how many", x.count(7), 0);
        due("18: none again", x.forget(), 0);
        due("18: no RESET", x.count(2), 3);
        x.measure(2, 1);
        due("18: the old ones don't count any more", x.fits(0), 1);
    }

    // Promises 19 and 20
    private static void faultsThatExplain() {
        SwingCircuits x = new SwingCircuits();
        due("19: no cell", x.faults(0), NONE);
        due("20: no cell", x.fault(0, 0), NONE);
        x.cell(0, 12, 6, 4);
        due("19: nothing in the drawer", x.faults(0), 0);
        x.drawer(12);
        x.drawer(4);
        x.drawer(3);
        x.drawer(6);
        due("19: none measured, all explain", x.faults(0), 6);
        due("20: first", x.fault(0, 0), 12);
        due("20: second", x.fault(0, 1), 4);
        due("20: third", x.fault(0, 2), 3);
        due("20: fourth", x.fault(0, 3), 112);
        due("20: fifth", x.fault(0, 4), 103);
        due("20: sixth", x.fault(0, 5), 106);
        due("20: seventh", x.fault(0, 6), NONE);
        due("20: -1", x.fault(0, -1), NONE);
        x.run(3);
        x.measure(8, 2);
        due("19: 4: rise 12, fall 6", x.faults(0), 2);
        due("20: rise 12", x.fault(0, 0), 12);
        due("20: fall 6", x.fault(0, 1), 106);
        due("20: no more", x.fault(0, 2), NONE);
        due("19: cell 1", x.faults(1), NONE);
        due("19: cell -1", x.faults(-1), NONE);
        due("20: cell 1", x.fault(1, 0), NONE);
        due("19: nothing changes", x.count(2), 3);
        CHECKS.dueAll("19: nor the cell", cellNow(x, 0), 12, 1, 0, 2, 1);
        due("19: nor its rates", x.of(0, 5), 5);
        x.measure(5, 1);
        due("19: the second is not so", x.faults(0), 0);
    }

    private static void faultsOfOtherCells() {
        SwingCircuits x = new SwingCircuits();
        x.cell(0, 6, 3, 2);
        x.cell(0, 4, 4, 1);
        x.link(0, 1, 1, 1, 0, 4);
        x.drawer(6);
        x.drawer(2);
        x.drawer(1);
        x.measure(5, 1);
        x.measure(5, 1);
        due("19: no fault of cell 1 matters to cell 0", x.faults(0), 5);
        due("20: rise 6", x.fault(0, 0), 1006);
        due("20: rise 2", x.fault(0, 1), 1002);
        due("20: rise 1", x.fault(0, 2), 1001);
        due("20: fall 6", x.fault(0, 3), 1106);
        due("20: fall 2", x.fault(0, 4), 1102);
        SwingCircuits y = new SwingCircuits();
        y.cell(0, 6, 3, 2);
        y.cell(0, 10, 1, 10);
        y.link(0, 0, 1, 1, 0, 20);
        y.drawer(6);
        y.drawer(3);
        y.measure(5, 1);
        due("21: cell 0 beats cell 1 up to its top", y.fits(1), 1);
        y.measure(5, 1);
        y.forget();
        y.measure(4, 1);
        y.measure(4, 1);
        due("21: another beat", y.fits(1), 0);
        due("19: a fault of cell 0 is heard at cell 1", y.faults(1), 2);
        due("20: its rise", y.fault(1, 0), 6);
        due("20: its fall", y.fault(1, 1), 103);
    }

    /** The second TOP of cell 0 is EVENT 400 of the one circuit, and EVENT 401 of the other. */
    private static void faultsNeedEnoughEvents() {
        SwingCircuits x = new SwingCircuits();
        x.cell(-49, 48, 1, 20);
        x.cell(0, 1, 2, 2);
        x.measure(2037, 20);
        due("21: within 400 events", x.fits(0), 1);
        x.run(400);
        CHECKS.dueAll("21: the last of 400", eventOf(x, 399), 0, 0, 3977, 20);
        SwingCircuits y = new SwingCircuits();
        y.cell(-49, 49, 1, 30);
        y.cell(0, 1, 2, 2);
        y.measure(1519, 15);
        due("21: not within 400 events", y.fits(0), 0);
        y.run(401);
        CHECKS.dueAll("21: one too late", eventOf(y, 400), 0, 0, 2989, 15);
        y.drawer(20);
        y.forget();
        y.measure(1029, 10);
        due("19: not within 400 events", y.faults(0), 0);
    }

    // Promise 21
    private static void fitting() {
        SwingCircuits x = new SwingCircuits();
        due("21: no cell", x.fits(0), NONE);
        x.cell(0, 6, 3, 2);
        due("21: cell -1", x.fits(-1), NONE);
        due("21: cell 1", x.fits(1), NONE);
        due("21: none measured", x.fits(0), 1);
        for (int i = 0; i < 8; i++) {
            x.measure(10, 2);
            due("21: as its beat", x.fits(0), 1);
        }
        x.set(0, 0, 6);
        due("21: not by another rise", x.fits(0), 0);
        x.forget();
        x.measure(4, 1);
        due("21: but so", x.fits(0), 1);
        x.run(7);
        due("21: from RESET on, wherever it is", x.fits(0), 1);
        due("21: nothing changes", x.count(2), 7);
        x.clear();
        due("21: no cell", x.fits(0), NONE);
    }
}
