import java.util.ArrayList;
import java.util.List;
import java.util.function.Supplier;
import java.util.function.ToLongFunction;

/**
 * All that can be seen of an object, as one row, so that a refused call can be shown to change nothing: the
 * object with that call and a twin without it look the same. An object is used up by being seen.
 */
final class View {
    private static final int FIRST_EVENTS = 7;

    private View() {
    }

    /** That a call answers NONE, and leaves the object as if it had not been. */
    static void refused(Checks checks, String name, Supplier<SwingCircuits> make,
            ToLongFunction<SwingCircuits> call) {
        unchanged(checks, name, make, call, SwingCircuits.NONE);
    }

    /** That a call answers so, and leaves the object as if it had not been. */
    static void unchanged(Checks checks, String name, Supplier<SwingCircuits> make,
            ToLongFunction<SwingCircuits> call, long answer) {
        SwingCircuits x = make.get();
        checks.due(name, call.applyAsLong(x), answer);
        checks.dueAll(name + ", what is seen then", of(x), of(make.get()));
    }

    static SwingCircuits empty() {
        return new SwingCircuits();
    }

    /** Something of everything, and room for more of it. */
    static SwingCircuits busy() {
        SwingCircuits x = new SwingCircuits();
        x.cell(0, 6, 3, 2);
        x.cell(-4, 10, 2, 5);
        x.link(0, 0, 2, 1, 0, 4);
        x.link(1, 1, 2, 0, 1, 0);
        x.drawer(3);
        x.drawer(7);
        x.drawer(12);
        x.measure(5, 1);
        x.ring(300);
        x.run(5);
        return x;
    }

    /** As many CELLS, LINKS, numbers of the DRAWER and MEASURED ones as there may be. */
    static SwingCircuits full() {
        SwingCircuits x = new SwingCircuits();
        for (int i = 0; i < 4; i++) {
            x.cell(i, i + 4, 4, 2);
        }
        for (int i = 0; i < 8; i++) {
            x.link(i % 4, i / 4, 9, (i + 1) % 4, 0, 1);
        }
        for (int i = 1; i <= 10; i++) {
            x.drawer(i);
        }
        for (int i = 0; i < 8; i++) {
            x.measure(3, 1);
        }
        x.ring(300);
        x.run(3);
        return x;
    }

    static long[] of(SwingCircuits x) {
        List<Long> seen = new ArrayList<>();
        seeMoment(x, seen);
        seeEvents(x, seen);
        seeRing(x, seen);
        seeParts(x, seen);
        seeWhatComes(x, seen);
        seeWhatWasTold(x, seen);
        long[] row = new long[seen.size()];
        for (int i = 0; i < row.length; i++) {
            row[i] = seen.get(i);
        }
        return row;
    }

    private static void seeMoment(SwingCircuits x, List<Long> seen) {
        for (int what = 0; what <= 7; what++) {
            seen.add((long) x.count(what));
        }
        for (int cell = 0; cell < x.count(0); cell++) {
            for (int what = 0; what <= 6; what++) {
                seen.add((long) x.of(cell, what));
            }
        }
        for (int link = 0; link < 8; link++) {
            seen.add((long) x.counted(link));
        }
    }

    private static void seeEvents(SwingCircuits x, List<Long> seen) {
        for (int i = 0; i < FIRST_EVENTS; i++) {
            for (int what = 0; what <= 3; what++) {
                seen.add((long) x.event(i, what));
            }
        }
    }

    private static void seeRing(SwingCircuits x, List<Long> seen) {
        for (int what = 0; what <= 7; what++) {
            seen.add(x.ringed(what));
        }
    }

    /** What is MEASURED is seen by what fits it, the DRAWER by its FAULTS once nothing is MEASURED. */
    private static void seeParts(SwingCircuits x, List<Long> seen) {
        for (int cell = 0; cell < x.count(0); cell++) {
            seen.add((long) x.fits(cell));
            seen.add((long) x.faults(cell));
        }
        seen.add((long) x.forget());
        for (int i = 0; i <= 20; i++) {
            seen.add((long) x.fault(0, i));
        }
    }

    private static void seeWhatComes(SwingCircuits x, List<Long> seen) {
        seen.add((long) x.ring(300));
        seeRing(x, seen);
        seen.add((long) x.run(20));
        seeMoment(x, seen);
    }

    private static void seeWhatWasTold(SwingCircuits x, List<Long> seen) {
        for (int cell = 0; cell < 4; cell++) {
            seen.add((long) x.set(cell, 0, 1));
            seen.add((long) x.set(cell, 1, 1));
        }
        seen.add((long) x.clear());
    }
}
