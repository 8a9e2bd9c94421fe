import java.lang.reflect.Field;
import java.util.NoSuchElementException;
import java.util.Random;

/**
 * For any arguments in any state nothing reaches the caller but the NoSuchElementException of of(): calls with
 * arguments at the ends of an int and at the document's bounds, far beyond the 512th call of an object.
 */
public final class NeverThrowsTest {
    private static final Checks CHECKS = new Checks();
    private static final int OBJECTS = 40;
    private static final int CALLS = 3000;
    private static final int KINDS = 20;

    private static final int[] EXTREMES = {Integer.MIN_VALUE, Integer.MIN_VALUE + 1, -1000001, -1000000, -501, -51,
            -50, -21, -20, -3, -2, -1, 0, 1, 2, 3, 4, 5, 6, 7, 8, 9, 10, 11, 20, 21, 50, 51, 59, 60, 61, 299, 300, 301,
            399, 400, 401, 499, 500, 501, 511, 512, 999999, 1000000, 1000001, 1 << 20, 1 << 24, 1 << 30,
            Integer.MAX_VALUE - 1, Integer.MAX_VALUE};

    private final Random random;
    private final SwingCircuits x = new SwingCircuits();

    private NeverThrowsTest(long seed) {
        random = new Random(seed);
    }

    public static void main(String[] args) throws ReflectiveOperationException {
        for (int seed = 1; seed <= OBJECTS; seed++) {
            new NeverThrowsTest(seed).manyCalls(seed);
        }
        eventsBeyondAnInt();
        CHECKS.finish("NeverThrowsTest");
    }

    private void manyCalls(int seed) {
        for (int i = 0; i < CALLS; i++) {
            int kind = random.nextInt(KINDS);
            CHECKS.due("seed " + seed + ", call " + i + " of kind " + kind + " (1: it throws)", throwsByItself(kind), 0);
        }
    }

    private int throwsByItself(int kind) {
        try {
            call(kind);
            return 0;
        } catch (NoSuchElementException ofAlone) {
            return kind == 0 ? 0 : 1;
        } catch (RuntimeException machine) {
            System.out.println(machine);
            return 1;
        }
    }

    /** Small enough to be taken, mostly, so that the states are not all empty ones. */
    private int any(int least, int most) {
        return random.nextInt(4) == 0 ? EXTREMES[random.nextInt(EXTREMES.length)]
                : least + random.nextInt(most - least + 1);
    }

    private long call(int kind) {
        switch (kind) {
            case 0: return x.of(any(0, 3), any(0, 6));
            case 1: return x.cell(any(-50, 0), any(1, 50), any(1, 60), any(1, 60));
            case 2: return x.link(any(0, 3), any(0, 1), any(1, 9), any(0, 3), any(0, 2), any(-20, 20));
            case 3: return random.nextInt(10) == 0 ? x.clear() : x.reset();
            case 4: return x.set(any(0, 3), any(0, 1), any(1, 60));
            case 5: return x.run(any(0, 20));
            case 6: return x.count(any(0, 7));
            case 7: return x.counted(any(0, 7));
            case 8: return x.event(any(0, 30), any(0, 3));
            case 9: return x.ring(any(1, 300));
            case 10: return x.ringed(any(0, 7));
            case 11: return x.drawer(any(1, 60));
            case 12: return x.parts(any(0, 3), any(1, 40), any(1, 20));
            case 13: return x.part(any(0, 3), any(1, 40), any(1, 20), any(0, 2));
            case 14: return x.measure(any(1, 40), any(1, 20));
            case 15: return random.nextInt(4) == 0 ? x.forget() : 0;
            case 16: return x.faults(any(0, 3));
            case 17: return x.fault(any(0, 3), any(0, 60));
            case 18: return x.fits(any(0, 3));
            default: return x.run(any(300, 500));
        }
    }

    /**
     * A CELL that turns itself stands at its TOP, and its EVENTS never end: some four million calls of run()
     * bring their number round an int. They take a minute, so the test puts the number there.
     */
    private static void eventsBeyondAnInt() throws ReflectiveOperationException {
        SwingCircuits standing = new SwingCircuits();
        standing.cell(0, 1, 1, 1);
        standing.link(0, 0, 1, 0, 1, 0);
        Field happened = SwingCircuits.class.getDeclaredField("happened");
        happened.setAccessible(true);
        happened.setInt(standing, Integer.MAX_VALUE - 3);
        int thrown = 0;
        try {
            standing.run(500);
            standing.event(0, 0);
            standing.event(Integer.MIN_VALUE, 0);
        } catch (RuntimeException machine) {
            System.out.println(machine);
            thrown = 1;
        }
        CHECKS.due("more EVENTS than an int counts (1: it throws)", thrown, 0);
        standing.reset();
        CHECKS.due("run(3) behind reset()", standing.run(3), 3);
        CHECKS.due("count(2) behind reset()", standing.count(2), 3);
        CHECKS.due("event(2, 2) behind reset()", standing.event(2, 2), 1);
        CHECKS.due("event(3, 2) behind reset()", standing.event(3, 2), -1);
    }
}
