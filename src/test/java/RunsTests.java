import java.util.Arrays;
import java.util.Random;

/**
 * Runs of up to 512 calls on one object, made by a fixed rule from ordinary, boundary and wrong
 * inputs: every answer is the model's.
 */
public final class RunsTests {
    private static final int RUNS = 600;
    private static final int CALLS = 512;
    private static final int MOST_AT_ONCE = 2;
    private static final long[] PLACES = {
        Check.EDGE, -Check.EDGE, Check.EDGE - 1, 1 - Check.EDGE, Check.EDGE + 1, -Check.EDGE - 1,
        Check.LEAST, Check.MOST, 1L << 39, 0,
    };
    private static final long[] NUMBERS = {
        0, 1, -1, 2, -2, 1L << 32, -(1L << 32), 1L << 62, Check.NONE, Check.LEAST, Check.MOST,
    };
    private static final int[] FAR = {Integer.MIN_VALUE, Integer.MAX_VALUE, -2, 99};

    private final int run;
    private final Random random;
    private final GridSums sums = new GridSums();
    private final Model model = new Model();
    private final long reach;
    private int calls = 0;

    private RunsTests(int run) {
        this.run = run;
        random = new Random(20261116L + run);
        reach = run % 3 == 0 ? 3 : run % 3 == 1 ? 12 : 1L << (2 + random.nextInt(39));
    }

    public static void main(String[] args) {
        for (int run = 0; run < RUNS; run++) {
            RunsTests one = new RunsTests(run);
            if (run % 5 == 0) {
                one.fillWithCorners();
            }
            while (one.calls <= CALLS - MOST_AT_ONCE) {
                one.ask();
            }
            Check.due("calls of a run are no more than the document's", true, one.calls <= CALLS);
        }
        Check.end();
    }

    /** So that some runs come to the last corner that there may be, and beyond. */
    private void fillWithCorners() {
        for (int i = 0; i < 64; i++) {
            askCorner();
        }
    }

    private void ask() {
        int draw = random.nextInt(100);
        if (draw < 10) {
            askTurn();
        } else if (draw < 24) {
            askLine();
        } else if (draw < 40) {
            askCross();
        } else if (draw < 58) {
            askPlaceAtHand();
        } else if (draw < 66) {
            askCorner();
        } else if (draw < 80) {
            askCorners();
        } else if (draw < 94) {
            askNumbers();
        } else {
            askState();
        }
    }

    private void askTurn() {
        long[] v = {place(), place(), place(), place(), place(), place()};
        due("turn", v, model.turn(v),
            Check.answerOf(() -> sums.turn(v[0], v[1], v[2], v[3], v[4], v[5])));
    }

    private void askLine() {
        int k = number(16);
        long[] v = {k, place(), place(), place(), place()};
        due("line", v, model.line(k, v[1], v[2], v[3], v[4]),
            Boolean.toString(sums.line(k, v[1], v[2], v[3], v[4])));
    }

    private void askCross() {
        int a = number(16);
        int b = number(16);
        due("cross", new long[] {a, b}, model.cross(a, b), Check.answerOf(() -> sums.cross(a, b)));
    }

    private void askPlaceAtHand() {
        int axis = number(2);
        due("at", new long[] {axis}, model.at(axis), Check.answerOf(() -> sums.at(axis)));
        int part = number(2);
        int limb = number(5) - 1;
        due("exact", new long[] {axis, part, limb}, model.exact(axis, part, limb),
            Check.answerOf(() -> sums.exact(axis, part, limb)));
    }

    private void askCorner() {
        long[] v = {place(), place()};
        due("corner", v, model.corner(v[0], v[1]), Boolean.toString(sums.corner(v[0], v[1])));
    }

    private void askCorners() {
        int limb = number(4) - 1;
        due("area2", new long[] {limb}, model.area2(limb), Check.answerOf(() -> sums.area2(limb)));
        long[] v = {place(), place()};
        due("inside", v, model.inside(v[0], v[1]), Check.answerOf(() -> sums.inside(v[0], v[1])));
    }

    private void askNumbers() {
        long a = number();
        long b = number();
        long c = number();
        int k = number(7);
        switch (random.nextInt(5)) {
            case 0:
                due("over", new long[] {a, b, k}, model.over(a, b, k),
                    Check.answerOf(() -> sums.over(a, b, k)));
                break;
            case 1:
                due("product", new long[] {a, b, k - 1}, model.product(a, b, k - 1),
                    Check.answerOf(() -> sums.product(a, b, k - 1)));
                break;
            case 2:
                due("ratio", new long[] {a, b, c, k}, model.ratio(a, b, c, k),
                    Check.answerOf(() -> sums.ratio(a, b, c, k)));
                break;
            case 3:
                askShare(a);
                break;
            default:
                askDigit(a);
                break;
        }
    }

    private void askShare(long all) {
        int n = random.nextBoolean() ? number(8) : number(1_000_001);
        int k = number(Math.max(1, n));
        due("share", new long[] {all, k, n}, model.share(all, k, n),
            Check.answerOf(() -> sums.share(all, k, n)));
    }

    private void askDigit(long a) {
        int base = number(37);
        int k = number(random.nextBoolean() ? 8 : 65);
        due("digit", new long[] {a, base, k}, model.digit(a, base, k),
            Check.answerOf(() -> sums.digit(a, base, k)));
    }

    private void askState() {
        int what = number(3);
        due("count", new long[] {what}, model.count(what), Check.answerOf(() -> sums.count(what)));
        if (random.nextInt(30) == 0) {
            sums.clear();
            due("clear", new long[0], model.clear(), "");
        }
    }

    private void due(String name, long[] arguments, String want, String got) {
        calls++;
        String call = name + Arrays.toString(arguments);
        Check.tell("run " + run + ", call " + calls + ": " + call, want, got);
    }

    /** Within the run's reach, now and then at the grid's edges or beyond. */
    private long place() {
        if (random.nextInt(40) == 0) {
            return PLACES[random.nextInt(PLACES.length)];
        }
        return Math.floorMod(random.nextLong(), 2 * reach + 1) - reach;
    }

    /** 0 .. bound - 1 for the most part, else just beside it or far off. */
    private int number(int bound) {
        int draw = random.nextInt(20);
        if (draw == 0) {
            return random.nextBoolean() ? -1 : bound;
        }
        return draw == 1 && random.nextInt(4) == 0 ? FAR[random.nextInt(FAR.length)] : random.nextInt(bound);
    }

    private long number() {
        if (random.nextInt(4) == 0) {
            return NUMBERS[random.nextInt(NUMBERS.length)] + random.nextInt(3) - 1;
        }
        return random.nextLong() >> random.nextInt(64);
    }
}
