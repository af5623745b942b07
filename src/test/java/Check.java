import java.util.function.IntToLongFunction;
import java.util.function.LongSupplier;

/** Counts and prints the answers that are not the ones due. */
final class Check {
    static final long NONE = -(1L << 62);
    static final long EDGE = 1L << 40;
    static final long LEAST = Long.MIN_VALUE;
    static final long MOST = Long.MAX_VALUE;
    static final String INDEX = "IndexOutOfBoundsException";
    static final String ARITHMETIC = "ArithmeticException";

    private static String about = "";
    private static int right = 0;
    private static int wrong = 0;

    private Check() {
    }

    /** A test of one sentence of the document: what goes wrong in it is told with that sentence. */
    static void holds(String section, String sentence, Runnable test) {
        about = section + ", \"" + sentence + "\": ";
        int before = right + wrong;
        try {
            test.run();
        } catch (RuntimeException | Error e) {
            tell("a call that throws nothing by the document", "an answer", e.toString());
        }
        due("the test asks something", true, right + wrong > before);
        about = "";
    }

    static void due(String call, long want, long got) {
        tell(call, Long.toString(want), Long.toString(got));
    }

    static void due(String call, boolean want, boolean got) {
        tell(call, Boolean.toString(want), Boolean.toString(got));
    }

    static void dueThrow(String call, String exception, LongSupplier got) {
        tell(call, "throws." + exception, answerOf(got));
    }

    /** All that a wide number tells, and that it has no limb below the sign and above the last. */
    static void dueLimbs(String call, IntToLongFunction number, int sign, long... limbs) {
        tell(call + " limb -1", Integer.toString(sign), answerOf(() -> number.applyAsLong(-1)));
        for (int i = 0; i < limbs.length; i++) {
            int limb = i;
            tell(call + " limb " + i, Long.toString(limbs[i]), answerOf(() -> number.applyAsLong(limb)));
        }
        int[] none = {-2, limbs.length, limbs.length + 1, 64, Integer.MIN_VALUE, Integer.MAX_VALUE};
        for (int limb : none) {
            dueThrow(call + " limb " + limb, INDEX, () -> number.applyAsLong(limb));
        }
    }

    static void tell(String call, String want, String got) {
        if (want.equals(got)) {
            right++;
        } else {
            wrong++;
            if (wrong <= 50) {
                System.out.println(about + call + " answered " + got + ", due is " + want);
            }
        }
    }

    /** The class itself counts, not one above it: what the machine throws is of a class below. */
    static String answerOf(LongSupplier got) {
        try {
            return Long.toString(got.getAsLong());
        } catch (RuntimeException e) {
            return "throws." + e.getClass().getSimpleName();
        }
    }

    static void end() {
        System.out.println(right + " answers as due, " + wrong + " not");
        if (wrong != 0 || right == 0) {
            System.exit(1);
        }
    }
}
