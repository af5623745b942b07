/** The boundary cases of promises 7 to 9, each sentence by a test of its own. */
public final class CornersBoundaryTests {
    private static final long EDGE = Check.EDGE;
    private static final long FULL_LIMB = 4294967295L;
    private static final long[] OFF_THE_GRID = {EDGE + 1, -EDGE - 1, Check.LEAST, Check.MOST};

    private CornersBoundaryTests() {
    }

    public static void main(String[] args) {
        Check.holds("Promise 7", "One more corner.", CornersBoundaryTests::cornersOneByOne);
        Check.holds("Promise 7", "One more corner.", CornersBoundaryTests::cornerTwiceIsTwo);
        Check.holds("Promise 7", "False: out of the grid", CornersBoundaryTests::cornerOutOfTheGrid);
        Check.holds("Promise 7", "False: .. there are 64.", CornersBoundaryTests::cornerBeyond64);
        Check.holds("Promise 8", "Twice the area of the corners", CornersBoundaryTests::areaOfTheLeast);
        Check.holds("Promise 8", "Twice the area of the corners", CornersBoundaryTests::areaOfTheMost);
        Check.holds("Promise 8", "Twice the area of the corners", CornersBoundaryTests::areaOfPartsThatGoBothWays);
        Check.holds("Promise 8", "above 0 when they go round to the left", CornersBoundaryTests::areaToTheLeft);
        Check.holds("Promise 8", "(fewer than three: 0)", CornersBoundaryTests::areaOfFewerThanThree);
        Check.holds("Promise 8", "Throws IndexOutOfBounds: a limb that it has not.",
            CornersBoundaryTests::areaLimbs);
        Check.holds("Promise 8", "Throws IndexOutOfBounds: a limb that it has not.",
            CornersBoundaryTests::areaThrowChangesNothing);
        Check.holds("Promise 9", "1 within .. 0 on it, - 1 not", CornersBoundaryTests::insideStepByStep);
        Check.holds("Promise 9", "1 within .. 0 on it, - 1 not", CornersBoundaryTests::insideAtTheCornersHeights);
        Check.holds("Promise 9", "1 within .. 0 on it, - 1 not", CornersBoundaryTests::insideByTheLeast);
        Check.holds("Promise 9", "(an odd number of times round, by the even-odd rule)",
            CornersBoundaryTests::insideOddTimesRound);
        Check.holds("Promise 9", "0 on it", CornersBoundaryTests::onItHoweverOften);
        Check.holds("Promise 9", "0 on it", CornersBoundaryTests::onFlatRows);
        Check.holds("Promise 9", "REFUSED: out of the grid", CornersBoundaryTests::insideOutOfTheGrid);
        Check.holds("Promise 9", "REFUSED: .. fewer than three corners.",
            CornersBoundaryTests::insideFewerThanThree);
        Check.holds("Promise 9", "Whether a place lies within the corners' way round",
            CornersBoundaryTests::insideChangesNothing);
        Check.end();
    }

    private static void cornersOneByOne() {
        GridSums sums = new GridSums();
        for (int i = 0; i < 64; i++) {
            Check.due("corner " + (i + 1), true, sums.corner(i, i % 2 == 0 ? EDGE : -EDGE));
            Check.due("count(1)", i + 1, sums.count(1));
        }
    }

    private static void cornerTwiceIsTwo() {
        GridSums sums = new GridSums();
        for (int i = 0; i < 64; i++) {
            Check.due("the same corner, time " + (i + 1), true, sums.corner(-3, 4));
        }
        Check.due("count(1)", 64, sums.count(1));
        Check.due("the same corner, time 65", false, sums.corner(-3, 4));
    }

    private static void cornerOutOfTheGrid() {
        for (long off : OFF_THE_GRID) {
            Twins.changesNothing("corner(" + off + ", 1)", 0, sums -> sums.corner(off, 1) ? 1 : 0);
            Twins.changesNothing("corner(1, " + off + ")", 0, sums -> sums.corner(1, off) ? 1 : 0);
            Twins.changesNothing("corner(" + off + ", " + off + ")", 0, sums -> sums.corner(off, off) ? 1 : 0);
        }
    }

    private static void cornerBeyond64() {
        long[] values = {0, 1, -EDGE, EDGE};
        for (long value : values) {
            Twins.changesNothing(Twins.State.FULL, "corner(" + value + ", 2)", 0,
                sums -> sums.corner(value, 2) ? 1 : 0);
        }
        GridSums sums = Twins.State.FULL.make();
        for (int i = 0; i < 70; i++) {
            Check.due("corner beyond 64, time " + i, false, sums.corner(i, -i));
        }
        Check.due("count(1)", 64, sums.count(1));
        Twins.dueAlike("behind 70 corners too many: ", Twins.State.FULL.make(), sums);
    }

    private static void areaOfTheLeast() {
        dueArea("the least to the left", Scenes.rowOf(0, 0, 1, 0, 0, 1), 1, 1);
        dueArea("the least to the right", Scenes.rowOf(0, 0, 0, 1, 1, 0), -1, 1);
        dueArea("the least across the grid",
            Scenes.rowOf(-EDGE, -EDGE, EDGE, EDGE - 1, 1 - EDGE, 1 - EDGE), 1, 1);
        dueArea("the least across the grid, to the right",
            Scenes.rowOf(-EDGE, -EDGE, 1 - EDGE, 1 - EDGE, EDGE, EDGE - 1), -1, 1);
        dueArea("three on one line", Scenes.rowOf(-EDGE, -EDGE, EDGE, EDGE, 3, 3), 0, 0);
        dueArea("three that are one", Scenes.rowOf(EDGE, -EDGE, EDGE, -EDGE, EDGE, -EDGE), 0, 0);
    }

    /** 64 corners go 16 times round the grid: 2^87. */
    private static void areaOfTheMost() {
        dueArea("once round the grid",
            Scenes.rowOf(-EDGE, -EDGE, EDGE, -EDGE, EDGE, EDGE, -EDGE, EDGE), 1, 0, 0, 1 << 19);
        dueArea("16 times round to the left",
            Scenes.rowOfRounds(16, -EDGE, -EDGE, EDGE, -EDGE, EDGE, EDGE, -EDGE, EDGE), 1, 0, 0, 1 << 23);
        dueArea("16 times round to the right",
            Scenes.rowOfRounds(16, -EDGE, -EDGE, -EDGE, EDGE, EDGE, EDGE, EDGE, -EDGE), -1, 0, 0, 1 << 23);
    }

    /** What is beyond 64 bits on the way is not lost, and comes back to 0 or next to it. */
    private static void areaOfPartsThatGoBothWays() {
        dueArea("round to the left and back",
            Scenes.rowOf(-EDGE, -EDGE, EDGE, -EDGE, EDGE, EDGE, -EDGE, EDGE, EDGE, EDGE, EDGE, -EDGE), 0, 0);
        dueArea("two loops", Scenes.rowOf(-EDGE, -EDGE, EDGE, EDGE, EDGE, -EDGE, -EDGE, EDGE), 0, 0);
        dueArea("two loops, one larger by the least",
            Scenes.rowOf(-EDGE, -EDGE, EDGE, EDGE, EDGE, -EDGE, -EDGE, EDGE - 1), -1, 0, 512);
    }

    private static void areaToTheLeft() {
        dueArea("left", Scenes.rowOf(3, 5, 10, 7, 4, 9), 1, 26);
        dueArea("right", Scenes.rowOf(3, 5, 4, 9, 10, 7), -1, 26);
        dueArea("left, another first", Scenes.rowOf(4, 9, 3, 5, 10, 7), 1, 26);
        dueArea("left, below 0", Scenes.rowOf(-3, -5, -10, -7, -4, -9), 1, 26);
    }

    private static void areaOfFewerThanThree() {
        dueArea("none", new GridSums(), 0, 0);
        GridSums sums = Scenes.rowOf(EDGE, -EDGE);
        dueArea("one", sums, 0, 0);
        sums.corner(EDGE, EDGE);
        dueArea("two", sums, 0, 0);
        sums.corner(EDGE - 1, EDGE);
        dueArea("three", sums, 1, 0, 512);
        sums.clear();
        dueArea("none behind clear", sums, 0, 0);
    }

    /** The last number of one and of two limbs and the first one of a limb more, on both sides. */
    private static void areaLimbs() {
        dueAreaOf(65535, 65537, FULL_LIMB);
        dueAreaOf(65536, 65536, 0, 1);
        dueAreaOf((1L << 32) - 1, (1L << 32) + 1, FULL_LIMB, FULL_LIMB);
        dueAreaOf(1L << 32, 1L << 32, 0, 0, 1);
        dueAreaOf(1L << 31, 1, 1L << 31);
        dueAreaOf(1L << 32, 1L << 31, 0, 1L << 31);
        dueAreaOf(EDGE, EDGE, 0, 0, 65536);
    }

    private static void dueAreaOf(long width, long height, long... limbs) {
        dueArea(width + " by " + height, Scenes.rowOf(0, 0, width, 0, 0, height), 1, limbs);
        dueArea(width + " by " + height + ", right", Scenes.rowOf(0, 0, 0, height, width, 0), -1, limbs);
    }

    private static void dueArea(String what, GridSums sums, int sign, long... limbs) {
        Check.dueLimbs("area2, " + what, sums::area2, sign, limbs);
    }

    private static void areaThrowChangesNothing() {
        int[] none = {-2, 1, 4, Integer.MIN_VALUE, Integer.MAX_VALUE};
        for (int limb : none) {
            Twins.throwsAndChangesNothing("area2(" + limb + ")", Check.INDEX, sums -> sums.area2(limb));
        }
        Twins.changesNothing(Twins.State.NEW, "area2(-1)", 0, sums -> sums.area2(-1));
        Twins.changesNothing(Twins.State.FEW, "area2(0)", 0, sums -> sums.area2(0));
        Twins.changesNothing(Twins.State.SOME, "area2(0)", 2, sums -> sums.area2(0));
        Twins.changesNothing(Twins.State.FULL, "area2(0)", 83328, sums -> sums.area2(0));
    }

    /** Places go through a square and a triangle from side to side. */
    private static void insideStepByStep() {
        GridSums square = Scenes.rowOf(-2, -2, 2, -2, 2, 2, -2, 2);
        GridSums right = Scenes.rowOf(-2, -2, -2, 2, 2, 2, 2, -2);
        int[] wants = {-1, 0, 1, 1, 1, 0, -1};
        int[] outer = {-1, 0, 0, 0, 0, 0, -1};
        for (int i = 0; i < 7; i++) {
            int s = i - 3;
            Check.due("x " + s + ", y 1", wants[i], square.inside(s, 1));
            Check.due("x " + s + ", y 0, corners to the right", wants[i], right.inside(s, 0));
            Check.due("x 1, y " + s, wants[i], square.inside(1, s));
            Check.due("x -1, y " + s + ", corners to the right", wants[i], right.inside(-1, s));
            Check.due("x " + s + " on the upper side's height", outer[i], square.inside(s, 2));
            Check.due("x " + s + " on the lower side's height", outer[i], square.inside(s, -2));
            Check.due("x " + s + " above", -1, square.inside(s, 3));
            Check.due("x " + s + " below", -1, square.inside(s, -3));
        }
        GridSums triangle = Scenes.rowOf(0, 0, 4, 0, 0, 4);
        int[] across = {-1, 0, 1, 0, -1, -1};
        for (int i = 0; i < 6; i++) {
            Check.due("triangle, x " + (i - 1), across[i], triangle.inside(i - 1, 2));
        }
    }

    /** A way through a corner is one way, not two, wherever the corner's sides go. */
    private static void insideAtTheCornersHeights() {
        GridSums kite = Scenes.rowOf(0, -4, 4, 0, 0, 4, -4, 0);
        int[] middle = {-1, 0, 1, 1, 1, 1, 1, 1, 1, 0, -1};
        for (int i = 0; i < middle.length; i++) {
            Check.due("kite, x " + (i - 5) + ", y 0", middle[i], kite.inside(i - 5, 0));
            Check.due("kite, x 0, y " + (i - 5), middle[i], kite.inside(0, i - 5));
            Check.due("kite, height of the upper corner, x " + (i - 5), i == 5 ? 0 : -1, kite.inside(i - 5, 4));
            Check.due("kite, height of the lower corner, x " + (i - 5), i == 5 ? 0 : -1, kite.inside(i - 5, -4));
        }
        GridSums teeth = Scenes.rowOf(0, 0, 8, 0, 8, 8, 6, 4, 4, 8, 2, 4, 0, 8);
        int[] valleys = {-1, 0, 1, 0, 1, 1, 1, 0, 1, 0, -1};
        int[] tips = {-1, 0, -1, -1, -1, 0, -1, -1, -1, 0, -1};
        for (int i = 0; i < valleys.length; i++) {
            Check.due("teeth, height of the valleys, x " + (i - 1), valleys[i], teeth.inside(i - 1, 4));
            Check.due("teeth, height of the tips, x " + (i - 1), tips[i], teeth.inside(i - 1, 8));
        }
        GridSums steps = Scenes.rowOf(0, 0, 6, 0, 6, 4, 4, 4, 4, 2, 2, 2, 2, 4, 0, 4);
        int[] level = {-1, 0, 1, 0, 0, 0, 1, 0, -1};
        for (int i = 0; i < level.length; i++) {
            Check.due("steps, height of a level side, x " + (i - 1), level[i], steps.inside(i - 1, 2));
        }
    }

    /** Off the way by 2^-41 of a step: products of 82 bits that differ by 1. */
    private static void insideByTheLeast() {
        GridSums sums = Scenes.rowOf(-EDGE, -EDGE, EDGE, -EDGE, EDGE, EDGE - 1);
        Check.due("just within", 1, sums.inside(EDGE - 1, EDGE - 2));
        Check.due("just not", -1, sums.inside(1 - EDGE, 1 - EDGE));
        Check.due("on the first", 0, sums.inside(-EDGE, -EDGE));
        Check.due("on the last", 0, sums.inside(EDGE, EDGE - 1));
        Check.due("beyond the last", -1, sums.inside(EDGE, EDGE));
        GridSums grid = Scenes.rowOf(-EDGE, -EDGE, EDGE, -EDGE, EDGE, EDGE, -EDGE, EDGE);
        Check.due("a step within the grid's edge", 1, grid.inside(EDGE - 1, 1 - EDGE));
        Check.due("on the grid's edge", 0, grid.inside(EDGE, 1 - EDGE));
        Check.due("on the grid's corner", 0, grid.inside(-EDGE, EDGE));
        Check.due("in the grid's middle", 1, grid.inside(0, 0));
    }

    private static void insideOddTimesRound() {
        for (int rounds = 1; rounds <= 16; rounds++) {
            GridSums square = Scenes.rowOfRounds(rounds, 0, 0, 8, 0, 8, 8, 0, 8);
            int want = rounds % 2 == 1 ? 1 : -1;
            Check.due("within a square, " + rounds + " times round", want, square.inside(4, 4));
            Check.due("not within a square, " + rounds + " times round", -1, square.inside(9, 4));
        }
        GridSums triangle = Scenes.rowOfRounds(21, 0, 0, 8, 0, 0, 8);
        Check.due("within a triangle, 21 times round", 1, triangle.inside(2, 2));
        GridSums star = Scenes.rowOf(0, 10, 6, -8, -10, 3, 10, 3, -6, -8);
        Check.due("within a star's tip", 1, star.inside(0, 8));
        Check.due("within a star's middle, twice round", -1, star.inside(0, 0));
        GridSums back = Scenes.rowOf(0, 0, 8, 0, 8, 8, 0, 8, 0, 0, 0, 8, 8, 8, 8, 0);
        Check.due("round to the left and then to the right", -1, back.inside(4, 4));
    }

    private static void onItHoweverOften() {
        for (int rounds = 1; rounds <= 16; rounds++) {
            GridSums square = Scenes.rowOfRounds(rounds, 0, 0, 8, 0, 8, 8, 0, 8);
            Check.due("on a side, " + rounds + " times round", 0, square.inside(8, 3));
            Check.due("on the way back, " + rounds + " times round", 0, square.inside(0, 3));
            Check.due("on a corner, " + rounds + " times round", 0, square.inside(8, 8));
        }
        GridSums eight = Scenes.rowOf(0, 0, 8, 8, 8, 0, 0, 8);
        Check.due("where the way crosses itself", 0, eight.inside(4, 4));
        GridSums inner = Scenes.rowOf(0, 0, 8, 0, 8, 8, 4, 8, 4, 4, 4, 8, 0, 8);
        Check.due("on a way in and back", 0, inner.inside(4, 6));
        Check.due("at its end", 0, inner.inside(4, 4));
        Check.due("beyond its end", 1, inner.inside(4, 3));
        Check.due("beside it", 1, inner.inside(3, 6));
    }

    private static void onFlatRows() {
        GridSums flat = Scenes.rowOf(0, 0, 6, 3, 2, 1);
        Check.due("on a flat row", 0, flat.inside(4, 2));
        Check.due("on its end", 0, flat.inside(6, 3));
        Check.due("beyond its end", -1, flat.inside(8, 4));
        Check.due("before its start", -1, flat.inside(-2, -1));
        Check.due("beside it", -1, flat.inside(4, 1));
        GridSums one = Scenes.rowOf(3, 3, 3, 3, 3, 3);
        Check.due("on the one place", 0, one.inside(3, 3));
        Check.due("right of the one place", -1, one.inside(4, 3));
        Check.due("left of the one place", -1, one.inside(2, 3));
        Check.due("above the one place", -1, one.inside(3, 4));
        GridSums level = Scenes.rowOf(0, 0, 4, 0, 8, 0);
        Check.due("on a level row", 0, level.inside(6, 0));
        Check.due("before a level row", -1, level.inside(-1, 0));
        Check.due("behind a level row", -1, level.inside(9, 0));
    }

    private static void insideOutOfTheGrid() {
        for (long off : OFF_THE_GRID) {
            Twins.changesNothing("inside(" + off + ", 0)", GridSums.REFUSED, sums -> sums.inside(off, 0));
            Twins.changesNothing("inside(0, " + off + ")", GridSums.REFUSED, sums -> sums.inside(0, off));
        }
    }

    private static void insideFewerThanThree() {
        Twins.changesNothing(Twins.State.NEW, "inside(5, -7)", GridSums.REFUSED, sums -> sums.inside(5, -7));
        Twins.changesNothing(Twins.State.FEW, "inside(5, -7)", GridSums.REFUSED, sums -> sums.inside(5, -7));
        GridSums sums = new GridSums();
        Check.due("none", GridSums.REFUSED, sums.inside(0, 0));
        sums.corner(0, 0);
        Check.due("one, on it", GridSums.REFUSED, sums.inside(0, 0));
        sums.corner(4, 0);
        Check.due("two, on them", GridSums.REFUSED, sums.inside(2, 0));
        Check.due("two, not on them", GridSums.REFUSED, sums.inside(2, 9));
        Check.due("the third is refused", false, sums.corner(0, EDGE + 1));
        Check.due("still two", GridSums.REFUSED, sums.inside(2, 0));
        sums.corner(0, 4);
        Check.due("three, on them", 0, sums.inside(2, 0));
        Check.due("three, within", 1, sums.inside(1, 1));
        sums.clear();
        Check.due("none behind clear", GridSums.REFUSED, sums.inside(1, 1));
    }

    private static void insideChangesNothing() {
        Twins.changesNothing(Twins.State.SOME, "inside(6, -6)", 0, sums -> sums.inside(6, -6));
        Twins.changesNothing(Twins.State.FULL, "inside(6, 55)", 1, sums -> sums.inside(6, 55));
        Twins.changesNothing(Twins.State.FULL, "inside(6, 57)", -1, sums -> sums.inside(6, 57));
    }
}
