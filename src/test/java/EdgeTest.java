/**
 * Circuits that were searched for because an EVENT of theirs comes just up to the bound of SPENT, or over it
 * by one term alone. Each goes event by event against PlainModel; how many there are is written out.
 */
public final class EdgeTest {
    private static final Checks CHECKS = new Checks();

    private final String name;
    private final SwingCircuits real = new SwingCircuits();
    private final PlainModel model = new PlainModel();

    private EdgeTest(String name) {
        this.name = name;
    }

    public static void main(String[] args) {
        new EdgeTest("a level too long, but kicked to a bar")
                .cell(0, 22, 49, 43).cell(21, 37, 19, 47).link(0, 1, 1, 1, 0, 6).goes(43);
        new EdgeTest("a level too long by a kick")
                .cell(1, 24, 41, 59).cell(-11, 6, 32, 35).link(1, 1, 1, 0, 0, 20).goes(3);
        new EdgeTest("a denominator of TIME of 1000000")
                .cell(-2, 5, 50, 5).cell(-43, -40, 50, 20).link(1, 1, 1, 0, 1, 0).goes(15);
        new EdgeTest("a numerator of TIME of 1000000")
                .cell(-47, -19, 23, 27).cell(-49, -25, 27, 9).link(1, 1, 1, 1, 1, 0).link(0, 1, 2, 0, 1, 0)
                .link(0, 0, 2, 1, 1, 0).link(1, 1, 1, 1, 1, 0).goes(38);
        new EdgeTest("a denominator of a LEVEL of 1000000")
                .cell(-1, 2, 8, 1).cell(-20, 8, 25, 2).cell(-4, 3, 2, 50).link(1, 0, 1, 2, 1, 0)
                .link(2, 0, 2, 0, 2, 1).link(2, 0, 2, 1, 0, -9).link(1, 0, 1, 0, 2, 0).link(1, 1, 1, 2, 1, 0).goes(14);
        new EdgeTest("a numerator of a LEVEL of 1000000")
                .cell(-40, -24, 49, 34).cell(16, 30, 48, 41).cell(3, 32, 51, 32).goes(431);
        new EdgeTest("a numerator of a LEVEL of -1000000")
                .cell(-50, 50, 43, 55).cell(-50, 50, 38, 49).goes(13);
        new EdgeTest("a numerator of a LEVEL of -1000000, kicked before")
                .cell(-50, 50, 41, 51).cell(-50, 50, 41, 1).cell(-50, 50, 58, 13).link(0, 1, 3, 2, 0, 13).goes(5);
        new EdgeTest("a numerator of a LEVEL of 1000001")
                .cell(-15, 4, 46, 57).cell(17, 19, 55, 58).cell(15, 35, 56, 41).goes(27);
        new EdgeTest("a numerator of a LEVEL of -1000001")
                .cell(-33, -13, 15, 37).cell(1, 25, 51, 53).goes(60);
        new EdgeTest("spent behind the second top of cell 0")
                .cell(0, 10, 57, 35).cell(0, 11, 47, 52).goes(5);
        new EdgeTest("the numerator of TIME alone")
                .cell(6, 32, 41, 12).cell(-17, 9, 43, 22).link(1, 1, 1, 0, 2, 0).goes(3);
        new EdgeTest("the denominator of TIME alone")
                .cell(1, 9, 25, 33).cell(0, 16, 59, 50).link(1, 1, 1, 0, 1, 0).goes(4);
        new EdgeTest("the denominator of a LEVEL alone")
                .cell(-11, 4, 19, 40).cell(-3, 5, 54, 32).cell(-2, 12, 25, 51).link(1, 0, 1, 2, 1, 0).goes(5);
        new EdgeTest("the numerator of a LEVEL alone")
                .cell(9, 35, 56, 1).cell(3, 11, 55, 19).goes(2);
        new EdgeTest("the numerator of a LEVEL below 0 alone")
                .cell(0, 2, 41, 17).cell(-46, -45, 59, 4).goes(2);
        CHECKS.finish("EdgeTest");
    }

    private void due(String call, long got, long want) {
        CHECKS.due(name + ": " + call, got, want);
    }

    private EdgeTest cell(int low, int high, int rise, int fall) {
        due("cell", real.cell(low, high, rise, fall), model.cell(low, high, rise, fall));
        return this;
    }

    private EdgeTest link(int from, int at, int n, int to, int act, int k) {
        due("link", real.link(from, at, n, to, act, k), model.link(from, at, n, to, act, k));
        return this;
    }

    /** So many events, and the next one would be SPENT. */
    private void goes(int events) {
        for (int i = 0; i <= events; i++) {
            for (int what = 0; what <= 5; what++) {
                due("event " + i + ", count(" + what + ")", real.count(what), model.count(what));
            }
            for (int cell = 0; cell < real.count(0); cell++) {
                for (int what = 0; what <= 4; what++) {
                    due("event " + i + ", of(" + cell + ", " + what + ")", real.of(cell, what), model.of(cell, what));
                }
            }
            due("event " + i + ", run(1)", real.run(1), model.run(1));
        }
        due("reset()", real.reset(), model.reset());
        due("run(500)", real.run(500), events);
        due("count(5)", real.count(5), 1);
        model.run(500);
        for (int i = 0; i <= events; i++) {
            for (int what = 0; what <= 3; what++) {
                due("event(" + i + ", " + what + ")", real.event(i, what), model.event(i, what));
            }
        }
    }
}
