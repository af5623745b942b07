/** The boundary cases of promises 2 to 6, each sentence by a test of its own. */
public final class LinesBoundaryTests {
    private static final long EDGE = Check.EDGE;
    private static final long NONE = Check.NONE;
    private static final long LEAST = Check.LEAST;
    private static final long MOST = Check.MOST;
    private static final long FULL_LIMB = 4294967295L;
    private static final long[] OFF_THE_GRID = {EDGE + 1, -EDGE - 1, LEAST, MOST};
    private static final int[] NEITHER_0_NOR_1 = {-1, 2, Integer.MIN_VALUE, Integer.MAX_VALUE};
    private static final int[] NO_LINES = {-1, 16, Integer.MIN_VALUE, Integer.MAX_VALUE};

    private LinesBoundaryTests() {
    }

    public static void main(String[] args) {
        String turn = "1 left (y up, x right), - 1 right, 0 on the line through both";
        Check.holds("Promise 2", turn, LinesBoundaryTests::turnLeftAndRightByTheLeast);
        Check.holds("Promise 2", turn, LinesBoundaryTests::turnBeyond64Bits);
        Check.holds("Promise 2", turn, LinesBoundaryTests::turnOnTheLineThroughBoth);
        Check.holds("Promise 2", "or both are one", LinesBoundaryTests::turnBothAreOne);
        Check.holds("Promise 2", "REFUSED: a place is out of the grid.", LinesBoundaryTests::turnRefused);
        Check.holds("Promise 3", "Line k.", LinesBoundaryTests::lineFirstAndLast);
        Check.holds("Promise 3", "Line k.", LinesBoundaryTests::lineToldAnew);
        Check.holds("Promise 3", "False: none such", LinesBoundaryTests::lineNoneSuch);
        Check.holds("Promise 3", "False: .. a place out of the grid", LinesBoundaryTests::lineOutOfTheGrid);
        Check.holds("Promise 3", "False: .. both ends are one.", LinesBoundaryTests::lineBothEndsAreOne);
        Check.holds("Promise 3", "False: .. both ends are one.", LinesBoundaryTests::lineOfOneStepIsTaken);
        Check.holds("Promise 3", "(What is at hand stays.)", LinesBoundaryTests::lineLeavesWhatIsAtHand);
        Check.holds("Promise 4", "APART, CROSSES, ALONG.", LinesBoundaryTests::crossStepByStepAcross);
        Check.holds("Promise 4", "APART, CROSSES, ALONG.", LinesBoundaryTests::crossStepByStepOnOneLine);
        Check.holds("Promise 4", "APART, CROSSES, ALONG.", LinesBoundaryTests::crossOfALineWithItself);
        Check.holds("Promise 4", "APART, CROSSES, ALONG.", LinesBoundaryTests::crossBeyond64Bits);
        Check.holds("Promise 4", "BAD: a line that is not told; nothing is changed.", LinesBoundaryTests::crossBad);
        Check.holds("Promise 4", "APART and ALONG: nothing is at hand then.", LinesBoundaryTests::nothingBehindApart);
        Check.holds("Promise 4", "APART and ALONG: nothing is at hand then.", LinesBoundaryTests::nothingBehindAlong);
        Check.holds("Promise 5", "Of the place at hand, rounded: axis 0 x, 1 y.", LinesBoundaryTests::atOfBothAxes);
        Check.holds("Promise 5", "Of the place at hand, rounded: axis 0 x, 1 y.", LinesBoundaryTests::atOfWideFractions);
        Check.holds("Promise 5", "- 2^62: none", LinesBoundaryTests::atNone);
        Check.holds("Promise 5", "- 2^62: .. another axis.", LinesBoundaryTests::atAnotherAxis);
        String exact = "axis 0 x, 1 y; part 0 the upper part, 1 the lower one";
        Check.holds("Promise 6", exact, LinesBoundaryTests::exactAxesAndParts);
        Check.holds("Promise 6", exact, LinesBoundaryTests::exactOfTheWidest);
        String limbs = "Throws IndexOutOfBounds: a limb that it has not (above the last one, below - 1).";
        Check.holds("Promise 6", limbs, LinesBoundaryTests::exactLimbsOfUpperParts);
        Check.holds("Promise 6", limbs, LinesBoundaryTests::exactLimbsOfLowerParts);
        Check.holds("Promise 6", limbs, LinesBoundaryTests::exactThrowChangesNothing);
        Check.holds("Promise 6", "- 2^62: none at hand", LinesBoundaryTests::exactNoneAtHand);
        Check.holds("Promise 6", "- 2^62: .. another axis", LinesBoundaryTests::exactAnotherAxis);
        Check.holds("Promise 6", "- 2^62: .. another .. part", LinesBoundaryTests::exactAnotherPart);
        Check.holds("Promise 6", "(that first)", LinesBoundaryTests::exactThatFirst);
        Check.end();
    }

    /** The span of the two ways is 1 and - 1, of products of 82 bits. */
    private static void turnLeftAndRightByTheLeast() {
        GridSums sums = new GridSums();
        Check.due("left by 1", 1, sums.turn(-EDGE, -EDGE, EDGE, EDGE - 1, 1 - EDGE, 1 - EDGE));
        Check.due("right by 1", -1, sums.turn(-EDGE, -EDGE, EDGE, EDGE - 1, EDGE - 1, EDGE - 2));
        Check.due("left by 1, from the end", 1, sums.turn(EDGE, EDGE - 1, -EDGE, -EDGE, EDGE - 1, EDGE - 2));
        Check.due("right by 1, from the end", -1, sums.turn(EDGE, EDGE - 1, -EDGE, -EDGE, 1 - EDGE, 1 - EDGE));
        Check.due("left of a step", 1, sums.turn(0, 0, 1, 0, 0, 1));
        Check.due("right of a step", -1, sums.turn(0, 0, 1, 0, 0, -1));
        Check.due("left of a step up", 1, sums.turn(0, 0, 0, 1, -1, 0));
        Check.due("right of a step up", -1, sums.turn(0, 0, 0, 1, 1, 0));
    }

    /** In 64 bits these spans would be 0 or have the other sign. */
    private static void turnBeyond64Bits() {
        GridSums sums = new GridSums();
        Check.due("2^63", 1, sums.turn(0, 0, 1L << 32, 0, 0, 1L << 31));
        Check.due("- 2^63 - 2^32", -1, sums.turn(0, 0, 1L << 32, 0, 0, -(1L << 31) - 1));
        Check.due("2^64", 1, sums.turn(0, 0, 1L << 32, 0, 0, 1L << 32));
        Check.due("- 2^64", -1, sums.turn(0, 0, 1L << 32, 0, 0, -(1L << 32)));
        Check.due("2^82", 1, sums.turn(-EDGE, -EDGE, EDGE, -EDGE, EDGE, EDGE));
        Check.due("- 2^82", -1, sums.turn(-EDGE, EDGE, EDGE, EDGE, EDGE, -EDGE));
        Check.due("2^83, the most", 1, sums.turn(-EDGE, -EDGE, EDGE, -EDGE, -EDGE, EDGE));
        Check.due("- 2^83", -1, sums.turn(EDGE, -EDGE, -EDGE, -EDGE, EDGE, EDGE));
    }

    private static void turnOnTheLineThroughBoth() {
        GridSums sums = new GridSums();
        long[] steps = {-2, -1, 0, 1, 2, 3, 4};
        for (long step : steps) {
            Check.due("on it, step " + step, 0, sums.turn(5, 1, 8, 3, 5 + 3 * step, 1 + 2 * step));
            Check.due("a step above, step " + step, 1, sums.turn(5, 1, 8, 3, 5 + 3 * step, 2 + 2 * step));
            Check.due("a step below, step " + step, -1, sums.turn(5, 1, 8, 3, 5 + 3 * step, 2 * step));
        }
        Check.due("on the grid's way across", 0, sums.turn(-EDGE, -EDGE, EDGE, EDGE, 7, 7));
        Check.due("beyond both, at the edge", 0, sums.turn(0, 0, 1, 1, EDGE, EDGE));
        Check.due("before both, at the edge", 0, sums.turn(0, 0, 1, -1, -EDGE, EDGE));
    }

    private static void turnBothAreOne() {
        GridSums sums = new GridSums();
        Check.due("all are one", 0, sums.turn(3, -4, 3, -4, 3, -4));
        Check.due("both are one", 0, sums.turn(3, -4, 3, -4, 8, 9));
        Check.due("both at an edge", 0, sums.turn(EDGE, -EDGE, EDGE, -EDGE, -EDGE, EDGE));
        Check.due("one in x alone", 1, sums.turn(3, -4, 3, -3, 2, 9));
        Check.due("one in y alone", -1, sums.turn(3, -4, 4, -4, 2, -5));
        Check.due("the first and the third are one", 0, sums.turn(3, -4, 8, 9, 3, -4));
        Check.due("the second and the third are one", 0, sums.turn(3, -4, 8, 9, 8, 9));
    }

    private static void turnRefused() {
        for (int i = 0; i < 6; i++) {
            for (long off : OFF_THE_GRID) {
                long[] v = {0, 0, 1, 0, 0, 1};
                v[i] = off;
                Twins.changesNothing("turn, number " + i + " is " + off, GridSums.REFUSED,
                    sums -> sums.turn(v[0], v[1], v[2], v[3], v[4], v[5]));
            }
        }
        Twins.changesNothing("turn, both are one off the grid", GridSums.REFUSED,
            sums -> sums.turn(EDGE + 1, 0, EDGE + 1, 0, 0, 0));
        Twins.changesNothing("turn that is answered", 1,
            sums -> sums.turn(-EDGE, -EDGE, EDGE, -EDGE, -EDGE, EDGE));
    }

    private static void lineFirstAndLast() {
        GridSums sums = new GridSums();
        for (int k = 0; k < 16; k++) {
            Check.due("line " + k, true, sums.line(k, k, -1, k, 20));
            Check.due("lines behind line " + k, k + 1, sums.count(0));
        }
        for (int k = 0; k < 16; k++) {
            Check.due("line " + k + " with the next one", GridSums.APART, sums.cross(k, (k + 1) % 16));
            Check.due("line " + k + " with itself", GridSums.ALONG, sums.cross(k, k));
        }
    }

    private static void lineToldAnew() {
        GridSums sums = new GridSums();
        sums.line(0, -9, 0, 9, 0);
        for (int k = 1; k < 16; k += 14) {
            Check.due("line " + k, true, sums.line(k, 4, -1, 4, 1));
            Check.due("its crossing", GridSums.CROSSES, sums.cross(0, k));
            Check.due("its place", 4, sums.at(0));
            Check.due("line " + k + " anew", true, sums.line(k, -5, -1, -5, 1));
            Check.due("its new crossing", GridSums.CROSSES, sums.cross(0, k));
            Check.due("its new place", -5, sums.at(0));
        }
        Check.due("lines that are told", 3, sums.count(0));
    }

    private static void lineNoneSuch() {
        for (int k : NO_LINES) {
            Twins.changesNothing("line(" + k + ", 0, 0, 1, 1)", 0, sums -> sums.line(k, 0, 0, 1, 1) ? 1 : 0);
        }
    }

    /** Each line may be told already (2), the last one (15) or none yet (0). */
    private static void lineOutOfTheGrid() {
        int[] numbers = {0, 2, 15};
        for (int k : numbers) {
            for (int i = 0; i < 4; i++) {
                for (long off : OFF_THE_GRID) {
                    long[] v = {1, 2, 3, 4};
                    v[i] = off;
                    Twins.changesNothing("line " + k + ", number " + i + " is " + off, 0,
                        sums -> sums.line(k, v[0], v[1], v[2], v[3]) ? 1 : 0);
                }
            }
        }
    }

    private static void lineBothEndsAreOne() {
        long[] values = {0, 7, -EDGE, EDGE};
        for (int k = 0; k < 16; k++) {
            int number = k;
            for (long value : values) {
                Twins.changesNothing("line " + k + " from and to " + value, 0,
                    sums -> sums.line(number, value, -value, value, -value) ? 1 : 0);
            }
        }
    }

    private static void lineOfOneStepIsTaken() {
        long[] values = {0, 7, -EDGE, EDGE - 1};
        for (long value : values) {
            GridSums sums = new GridSums();
            Check.due("a step in x", true, sums.line(0, value, value, value + 1, value));
            Check.due("a step in y", true, sums.line(1, value, value, value, value + 1));
            Check.due("a step back in x", true, sums.line(2, value + 1, value, value, value));
            Check.due("a step back in y", true, sums.line(3, value, value + 1, value, value));
            Check.due("they meet", GridSums.CROSSES, sums.cross(0, 1));
            Scenes.dueWholePlace("where they meet", sums, value, value);
            Check.due("the same step", GridSums.ALONG, sums.cross(1, 3));
        }
    }

    private static void lineLeavesWhatIsAtHand() {
        GridSums sums = Scenes.placeOnAxis(0, 1, 4, 1, 3);
        for (int k = 0; k < 16; k++) {
            Check.due("line " + k, true, sums.line(k, 100, 100 + k, 200, 300));
            Check.due("what is at hand behind line " + k, 1, sums.count(2));
            Check.dueLimbs("upper behind line " + k, limb -> sums.exact(0, 0, limb), 1, 13);
            Check.dueLimbs("lower behind line " + k, limb -> sums.exact(0, 1, limb), 1, 3);
        }
        Check.due("at(0)", 4, sums.at(0));
        Check.due("at(1)", 0, sums.at(1));
        GridSums none = new GridSums();
        none.line(0, 0, 0, 1, 1);
        none.line(1, 0, 1, 1, 0);
        Check.due("lines alone put nothing at hand", 0, none.count(2));
    }

    /** A line's end comes nearer to another one, stands on it, goes through it. */
    private static void crossStepByStepAcross() {
        int[] wants = {0, 0, 1, 1, 1};
        for (int i = 0; i < wants.length; i++) {
            Scenes.dueCrossBothWays("end at height " + (2 - i), wants[i],
                Scenes.line(-5, 0, 5, 0), Scenes.line(3, 9, 3, 2 - i));
            Scenes.dueCrossBothWays("end at width " + (2 - i), wants[i],
                Scenes.line(0, -5, 0, 5), Scenes.line(9, 3, 2 - i, 3));
        }
        Scenes.dueCrossBothWays("end on the first place", 1, Scenes.line(-5, 0, 5, 0), Scenes.line(-5, 9, -5, 0));
        Scenes.dueCrossBothWays("beside the first place", 0, Scenes.line(-5, 0, 5, 0), Scenes.line(-6, 9, -6, 0));
        Scenes.dueCrossBothWays("end on the last place", 1, Scenes.line(-5, 0, 5, 0), Scenes.line(5, 9, 5, 0));
        Scenes.dueCrossBothWays("beside the last place", 0, Scenes.line(-5, 0, 5, 0), Scenes.line(6, 9, 6, -9));
    }

    /** A line of two steps goes past another one on the same line, step by step. */
    private static void crossStepByStepOnOneLine() {
        int[] wants = {0, 1, 2, 2, 2, 1, 0};
        long[][] steps = {{1, 0}, {0, 1}, {3, 2}, {-1, 4}};
        for (long[] step : steps) {
            long x = step[0];
            long y = step[1];
            for (int i = 0; i < wants.length; i++) {
                int s = i - 3;
                Scenes.dueCrossBothWays("by (" + x + ", " + y + "), step " + s, wants[i],
                    Scenes.line(0, 0, 2 * x, 2 * y), Scenes.line(s * x, s * y, (s + 2) * x, (s + 2) * y));
            }
        }
    }

    private static void crossOfALineWithItself() {
        GridSums sums = new GridSums();
        for (int k = 0; k < 16; k += 15) {
            sums.line(k, -EDGE, EDGE, EDGE, 3);
            Check.due("cross(" + k + ", " + k + ")", GridSums.ALONG, sums.cross(k, k));
            Check.due("nothing at hand", 0, sums.count(2));
        }
    }

    /** Spans of 2^63, 2^64 and more: in 64 bits they would be 0 or have the other sign. */
    private static void crossBeyond64Bits() {
        long half = 1L << 31;
        long one = 1L << 32;
        Scenes.dueCrossBothWays("span 2^63", 1, Scenes.line(0, 0, one, 0), Scenes.line(5, -5, 5, half - 5));
        Scenes.dueCrossBothWays("span 2^64", 1, Scenes.line(0, 0, one, 0), Scenes.line(5, -5, 5, one - 5));
        Scenes.dueCrossBothWays("span 2^64, apart", 0, Scenes.line(0, 0, one, 0), Scenes.line(5, 1, 5, one + 1));
        Scenes.dueCrossBothWays("parallels 2^64 apart", 0, Scenes.line(0, 0, one, 0), Scenes.line(0, one, one, one));
        Scenes.dueCrossBothWays("parallels across the grid", 0,
            Scenes.line(-EDGE, -EDGE, EDGE, -EDGE), Scenes.line(-EDGE, EDGE, EDGE, EDGE));
        Scenes.dueCrossBothWays("span - 1 of 82 bits", 1,
            Scenes.line(-EDGE, -EDGE, EDGE, EDGE - 1), Scenes.line(-EDGE, -EDGE, EDGE - 1, EDGE - 2));
        Scenes.dueCrossBothWays("on one line across the grid", 1,
            Scenes.line(-EDGE, -EDGE, 0, 0), Scenes.line(0, 0, EDGE, EDGE));
    }

    private static void crossBad() {
        for (int k : NO_LINES) {
            Twins.changesNothing("cross(" + k + ", 2)", GridSums.BAD, sums -> sums.cross(k, 2));
            Twins.changesNothing("cross(2, " + k + ")", GridSums.BAD, sums -> sums.cross(2, k));
            Twins.changesNothing("cross(" + k + ", " + k + ")", GridSums.BAD, sums -> sums.cross(k, k));
        }
        int[] untold = {0, 1, 4, 8, 10, 15};
        for (int k : untold) {
            Twins.changesNothing(Twins.State.SOME, "cross(" + k + ", 2)", GridSums.BAD, sums -> sums.cross(k, 2));
            Twins.changesNothing(Twins.State.SOME, "cross(2, " + k + ")", GridSums.BAD, sums -> sums.cross(2, k));
            Twins.changesNothing(Twins.State.SOME, "cross(" + k + ", " + k + ")", GridSums.BAD, sums -> sums.cross(k, k));
            Twins.changesNothing(Twins.State.NEW, "cross(" + k + ", " + k + ")", GridSums.BAD, sums -> sums.cross(k, k));
        }
    }

    private static void nothingBehindApart() {
        GridSums sums = Twins.State.SOME.make();
        sums.line(4, 50, 50, 51, 50);
        dueSomething(sums);
        Check.due("apart", GridSums.APART, sums.cross(2, 4));
        dueNothing("behind two apart", sums);
        sums.line(5, 0, 1, 6, 4);
        Check.due("crosses again", GridSums.CROSSES, sums.cross(2, 3));
        dueSomething(sums);
        Check.due("parallels", GridSums.APART, sums.cross(2, 5));
        dueNothing("behind parallels", sums);
        sums.cross(2, 3);
        sums.line(6, 8, 4, 10, 5);
        Check.due("on one line", GridSums.APART, sums.cross(6, 2));
        dueNothing("behind two on one line", sums);
    }

    private static void nothingBehindAlong() {
        GridSums sums = Twins.State.SOME.make();
        sums.line(4, 2, 1, 8, 4);
        dueSomething(sums);
        Check.due("along", GridSums.ALONG, sums.cross(2, 4));
        dueNothing("behind along", sums);
        Check.due("crosses again", GridSums.CROSSES, sums.cross(3, 2));
        dueSomething(sums);
        Check.due("a line with itself", GridSums.ALONG, sums.cross(3, 3));
        dueNothing("behind a line with itself", sums);
    }

    private static void dueSomething(GridSums sums) {
        Check.due("a place is at hand", 1, sums.count(2));
        Check.due("its at(0)", 1, sums.at(0));
        Check.due("its lower part", 3, sums.exact(1, 1, 0));
    }

    private static void dueNothing(String when, GridSums sums) {
        Check.due(when + ": count(2)", 0, sums.count(2));
        for (int axis = 0; axis < 2; axis++) {
            Check.due(when + ": at(" + axis + ")", NONE, sums.at(axis));
            Check.due(when + ": upper of axis " + axis, NONE, sums.exact(axis, 0, -1));
            Check.due(when + ": lower of axis " + axis, NONE, sums.exact(axis, 1, 0));
        }
    }

    private static void atOfBothAxes() {
        GridSums sums = new GridSums();
        sums.line(0, 7, -9, 7, 9);
        sums.line(1, -20, -3, 20, -3);
        sums.cross(0, 1);
        Check.due("at(0)", 7, sums.at(0));
        Check.due("at(1)", -3, sums.at(1));
        long[][] grid = {{-EDGE, -EDGE}, {-EDGE, EDGE}, {EDGE, -EDGE}, {EDGE, EDGE}};
        for (int i = 0; i < 4; i++) {
            sums.line(2, 0, 0, grid[i][0], grid[i][1]);
            sums.line(3, grid[i][0], grid[i][1], 5, 6);
            sums.cross(2, 3);
            Check.due("at(0), corner " + i + " of the grid", grid[i][0], sums.at(0));
            Check.due("at(1), corner " + i + " of the grid", grid[i][1], sums.at(1));
        }
        Twins.changesNothing(Twins.State.FULL, "at(0)", -549755813887L, s -> s.at(0));
        Twins.changesNothing(Twins.State.SOME, "at(1)", 0, s -> s.at(1));
    }

    /** Upper parts of four limbs, lower ones of three. */
    private static void atOfWideFractions() {
        GridSums above = widest(1);
        Check.due("at(0) of the widest", EDGE - 1, above.at(0));
        Check.due("at(1) of the widest", EDGE - 2, above.at(1));
        GridSums below = widest(-1);
        Check.due("at(0) of the widest below 0", 1 - EDGE, below.at(0));
        Check.due("at(1) of the widest below 0", 2 - EDGE, below.at(1));
    }

    private static GridSums widest(int sign) {
        GridSums sums = new GridSums();
        sums.line(0, -sign * EDGE, -sign * EDGE, sign * EDGE, sign * (EDGE - 1));
        sums.line(1, sign * EDGE, -sign * EDGE, sign * (EDGE - 1), sign * EDGE);
        Check.due("lines of the widest place", GridSums.CROSSES, sums.cross(0, 1));
        return sums;
    }

    private static void atNone() {
        Twins.changesNothing(Twins.State.NEW, "at(0)", NONE, sums -> sums.at(0));
        Twins.changesNothing(Twins.State.NEW, "at(1)", NONE, sums -> sums.at(1));
        Twins.changesNothing(Twins.State.FEW, "at(0)", NONE, sums -> sums.at(0));
        Twins.changesNothing(Twins.State.FEW, "at(1)", NONE, sums -> sums.at(1));
        GridSums sums = Twins.State.FULL.make();
        sums.clear();
        Check.due("at(0) behind clear", NONE, sums.at(0));
        Check.due("at(1) behind clear", NONE, sums.at(1));
    }

    private static void atAnotherAxis() {
        for (int axis : NEITHER_0_NOR_1) {
            Twins.changesNothing("at(" + axis + ")", NONE, sums -> sums.at(axis));
        }
    }

    private static void exactAxesAndParts() {
        GridSums sums = new GridSums();
        sums.line(0, 0, 0, 30, 14);
        sums.line(1, 0, 3, 5, 0);
        Check.due("they cross", GridSums.CROSSES, sums.cross(0, 1));
        Check.dueLimbs("x, upper", limb -> sums.exact(0, 0, limb), 1, 45);
        Check.dueLimbs("x, lower", limb -> sums.exact(0, 1, limb), 1, 16);
        Check.dueLimbs("y, upper", limb -> sums.exact(1, 0, limb), 1, 21);
        Check.dueLimbs("y, lower", limb -> sums.exact(1, 1, limb), 1, 16);
        Twins.changesNothing(Twins.State.FULL, "exact(0, 0, 3)", 33554431, s -> s.exact(0, 0, 3));
        Twins.changesNothing(Twins.State.SOME, "exact(1, 1, 0)", 3, s -> s.exact(1, 1, 0));
    }

    private static void exactOfTheWidest() {
        for (int sign = -1; sign < 2; sign += 2) {
            GridSums sums = widest(sign);
            Check.dueLimbs("x, upper", l -> sums.exact(0, 0, l), sign, 0, 256, 4294836224L, 67108863);
            Check.dueLimbs("x, lower", l -> sums.exact(0, 1, l), 1, FULL_LIMB, 511, 262144);
            Check.dueLimbs("y, upper", l -> sums.exact(1, 0, l), sign, 0, 256, 4294574080L, 67108863);
            Check.dueLimbs("y, lower", l -> sums.exact(1, 1, l), 1, FULL_LIMB, 511, 262144);
        }
        GridSums lower = new GridSums();
        lower.line(0, -EDGE, -EDGE, EDGE, EDGE - 1);
        lower.line(1, -EDGE, EDGE, EDGE - 1, -EDGE);
        Check.due("lines of the widest lower part", GridSums.CROSSES, lower.cross(0, 1));
        Check.dueLimbs("2^83 - 2^42 + 1", l -> lower.exact(0, 1, l), 1, 1, 4294966272L, 524287);
        Check.dueLimbs("- 2^40 by it", l -> lower.exact(0, 0, l), -1, 0, 256);
    }

    /** The last number of one, two, three limbs and the first one of a limb more. */
    private static void exactLimbsOfUpperParts() {
        dueUpperOnAxes(0, 0, 1, 0, 0);
        dueUpperOnAxes(0, 1, 3, 1, 1);
        dueUpperOnAxes(613566756, 3, 7, 1, FULL_LIMB);
        dueUpperOnAxes(613566756, 4, 7, 1, 0, 1);
        dueUpperOnAxes(16777216, 50331647, 1099511627773L, 1, FULL_LIMB, FULL_LIMB);
        dueUpperOnAxes(16777216, 16777216, 1099511627775L, 1, 0, 0, 1);
        GridSums three = new GridSums();
        three.line(0, 22024347921L, -549755813888L, 22024347922L, -137682234508L);
        three.line(1, 22030902063L, -755123431036L, 22022172315L, -362201053163L);
        Check.due("lines of 2^96 - 1", GridSums.CROSSES, three.cross(0, 1));
        Check.dueLimbs("2^96 - 1", l -> three.exact(0, 0, l), 1, FULL_LIMB, FULL_LIMB, FULL_LIMB);
        GridSums four = new GridSums();
        four.line(0, 56914639822L, -549755813888L, 56914639823L, -185109222853L);
        four.line(1, 56915617302L, -353919693103L, 56911799764L, -144462897680L);
        Check.due("lines of 2^96", GridSums.CROSSES, four.cross(0, 1));
        Check.dueLimbs("2^96", l -> four.exact(0, 0, l), 1, 0, 0, 0, 1);
        Check.dueLimbs("y by 2^96", l -> four.exact(1, 0, l), -1, 2730844290L, 2100992217, 1185917457, 5);
    }

    private static void dueUpperOnAxes(long whole, long part, long parts, int sign, long... limbs) {
        for (int axis = 0; axis < 2; axis++) {
            int a = axis;
            GridSums above = Scenes.placeOnAxis(a, 1, whole, part, parts);
            GridSums below = Scenes.placeOnAxis(a, -1, whole, part, parts);
            String call = "upper of axis " + a + ", " + whole + " + " + part + " / " + parts;
            Check.dueLimbs(call, l -> above.exact(a, 0, l), sign, limbs);
            Check.dueLimbs(call + ", below 0", l -> below.exact(a, 0, l), -sign, limbs);
        }
    }

    private static void exactLimbsOfLowerParts() {
        dueLowerOnAxes(1, 1);
        dueLowerOnAxes(2, 2);
        dueLowerOnAxes(FULL_LIMB, FULL_LIMB);
        dueLowerOnAxes(1L << 32, 0, 1);
        dueLowerOnAxes((1L << 32) + 1, 1, 1);
        dueLowerOnAxes(EDGE, 0, 256);
        GridSums two = new GridSums();
        two.line(0, 0, -274877906944L, 1, 213410227969L);
        two.line(1, 6822920, -227981350472L, -30955479, -141980943144L);
        Check.due("lines of 2^64 - 1", GridSums.CROSSES, two.cross(0, 1));
        Check.dueLimbs("2^64 - 1", l -> two.exact(0, 1, l), 1, FULL_LIMB, FULL_LIMB);
        Check.dueLimbs("by 2^64 - 1", l -> two.exact(0, 0, l), 1, 1993971784, 549119599);
        GridSums three = new GridSums();
        three.line(0, 0, -274877906944L, 1, 232944995829L);
        three.line(1, 7519297, 107219617522L, -28805854, 556441625415L);
        Check.due("lines of 2^64", GridSums.CROSSES, three.cross(0, 1));
        Check.dueLimbs("2^64", l -> three.exact(0, 1, l), 1, 0, 0, 1);
        Check.dueLimbs("by 2^64", l -> three.exact(0, 0, l), 1, 2011157219, 4018094383L);
    }

    private static void dueLowerOnAxes(long parts, long... limbs) {
        for (int axis = 0; axis < 2; axis++) {
            int a = axis;
            GridSums sums = Scenes.placeOnAxis(a, 1, 0, 1, parts);
            Check.dueLimbs("lower of axis " + a + ", " + parts, l -> sums.exact(a, 1, l), 1, limbs);
        }
    }

    private static void exactThrowChangesNothing() {
        int[] noLimbsOfSome = {-2, 1, 2, Integer.MIN_VALUE, Integer.MAX_VALUE};
        for (int limb : noLimbsOfSome) {
            Twins.throwsAndChangesNothing(Twins.State.SOME, "exact(0, 0, " + limb + ")", Check.INDEX,
                sums -> sums.exact(0, 0, limb));
            Twins.throwsAndChangesNothing(Twins.State.SOME, "exact(1, 1, " + limb + ")", Check.INDEX,
                sums -> sums.exact(1, 1, limb));
        }
        Twins.throwsAndChangesNothing(Twins.State.FULL, "exact(0, 0, 4)", Check.INDEX, sums -> sums.exact(0, 0, 4));
        Twins.throwsAndChangesNothing(Twins.State.FULL, "exact(0, 1, 3)", Check.INDEX, sums -> sums.exact(0, 1, 3));
        Twins.throwsAndChangesNothing(Twins.State.FULL, "exact(1, 0, -2)", Check.INDEX, sums -> sums.exact(1, 0, -2));
    }

    private static void exactNoneAtHand() {
        for (int part = 0; part < 2; part++) {
            int p = part;
            for (int axis = 0; axis < 2; axis++) {
                int a = axis;
                Twins.changesNothing(Twins.State.NEW, "exact", NONE, sums -> sums.exact(a, p, 0));
                Twins.changesNothing(Twins.State.FEW, "exact", NONE, sums -> sums.exact(a, p, -1));
            }
        }
        GridSums sums = Twins.State.FULL.make();
        sums.clear();
        Check.due("exact(0, 0, 0) behind clear", NONE, sums.exact(0, 0, 0));
    }

    private static void exactAnotherAxis() {
        for (int axis : NEITHER_0_NOR_1) {
            Twins.changesNothing("exact(" + axis + ", 0, 0)", NONE, sums -> sums.exact(axis, 0, 0));
            Twins.changesNothing("exact(" + axis + ", 1, -1)", NONE, sums -> sums.exact(axis, 1, -1));
        }
    }

    private static void exactAnotherPart() {
        for (int part : NEITHER_0_NOR_1) {
            Twins.changesNothing("exact(0, " + part + ", 0)", NONE, sums -> sums.exact(0, part, 0));
            Twins.changesNothing("exact(1, " + part + ", -1)", NONE, sums -> sums.exact(1, part, -1));
        }
    }

    /** A limb that is not there, too: no throw. */
    private static void exactThatFirst() {
        int[] limbs = {-2, 4, Integer.MIN_VALUE, Integer.MAX_VALUE};
        for (int limb : limbs) {
            Twins.changesNothing(Twins.State.NEW, "none at hand, limb " + limb, NONE, sums -> sums.exact(0, 0, limb));
            Twins.changesNothing(Twins.State.FEW, "none at hand, limb " + limb, NONE, sums -> sums.exact(1, 1, limb));
            for (int other : NEITHER_0_NOR_1) {
                Twins.changesNothing("axis " + other + ", limb " + limb, NONE, sums -> sums.exact(other, 0, limb));
                Twins.changesNothing("part " + other + ", limb " + limb, NONE, sums -> sums.exact(1, other, limb));
            }
        }
    }
}
