import java.util.NoSuchElementException;

/** Counts answers that are due and those that are not, and ends a test with the exit code that says so. */
final class Checks {
    private int right = 0;
    private int wrong = 0;

    void due(String call, long got, long want) {
        if (got == want) {
            right++;
            return;
        }
        wrong++;
        System.out.println(call + " answered " + got + ", due is " + want);
    }

    /** Every number of a row of answers, told as one call. */
    void dueAll(String call, long[] got, long... want) {
        due(call + " (how many)", got.length, want.length);
        for (int i = 0; i < want.length && i < got.length; i++) {
            due(call + " [" + i + "]", got[i], want[i]);
        }
    }

    void ofThrows(SwingCircuits x, int cell, int what) {
        String call = "of(" + cell + ", " + what + ")";
        try {
            due(call + " answers instead of throwing", x.of(cell, what), Long.MIN_VALUE);
        } catch (NoSuchElementException asDue) {
            right++;
        }
    }

    int wrongs() {
        return wrong;
    }

    void finish(String name) {
        System.out.println(name + ": " + right + " answers as due, " + wrong + " not");
        if (wrong != 0) {
            System.exit(1);
        }
    }
}
