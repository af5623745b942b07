import java.util.function.LongSupplier;

/** Counts and prints the answers that are not the ones due. */
final class Check {
    static final long NONE = -(1L << 62);
    static final long EDGE = 1L << 40;
    static final String INDEX = "IndexOutOfBoundsException";
    static final String ARITHMETIC = "ArithmeticException";

    private static int right = 0;
    private static int wrong = 0;

    private Check() {
    }

    static void due(String call, long want, long got) {
        tell(call, Long.toString(want), Long.toString(got));
    }

    static void due(String call, boolean want, boolean got) {
        tell(call, Boolean.toString(want), Boolean.toString(got));
    }

    static void dueThrow(String call, String exception, LongSupplier got) {
        tell(call, "throws." + exception, answerOf(got));
    }

    static void tell(String call, String want, String got) {
        if (want.equals(got)) {
            right++;
        } else {
            wrong++;
            if (wrong <= 50) {
                System.out.println(call + " answered " + got + ", due is " + want);
            }
        }
    }

    /** The class itself counts, not one above it: what the machine throws is of a class below. */
    static String answerOf(LongSupplier got) {
        try {
            return Long.toString(got.getAsLong());
        } catch (RuntimeException e) {
            return "throws." + e.getClass().getSimpleName();
        }
    }

    static void end() {
        System.out.println(right + " answers as due, " + wrong + " not");
        if (wrong != 0 || right == 0) {
            System.exit(1);
        }
    }
}
