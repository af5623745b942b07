import java.util.function.IntToLongFunction;

/** The boundary cases that the section "Terms" names, each sentence by a test of its own. */
public final class TermsBoundaryTests {
    private static final long EDGE = Check.EDGE;
    private static final long LEAST = Check.LEAST;
    private static final long MOST = Check.MOST;
    private static final long FULL_LIMB = 4294967295L;
    private static final long[] OFF_THE_GRID = {
        EDGE + 1, -EDGE - 1, 2 * EDGE, -2 * EDGE, 1L << 62, -(1L << 62), MOST, LEAST,
    };

    /** a by 4 by the rules 0 .. 6: exact, below a half, a half and above it, on both sides of 0. */
    private static final int[][] BY_FOUR = {
        {-10, -3, -2, -2, -3, -3, -2, -2},
        {-9, -3, -2, -2, -3, -2, -2, -2},
        {-8, -2, -2, -2, -2, -2, -2, -2},
        {-7, -2, -1, -1, -2, -2, -2, -2},
        {-6, -2, -1, -1, -2, -2, -1, -2},
        {-5, -2, -1, -1, -2, -1, -1, -1},
        {-4, -1, -1, -1, -1, -1, -1, -1},
        {-3, -1, 0, 0, -1, -1, -1, -1},
        {-2, -1, 0, 0, -1, -1, 0, 0},
        {-1, -1, 0, 0, -1, 0, 0, 0},
        {0, 0, 0, 0, 0, 0, 0, 0},
        {1, 0, 1, 0, 1, 0, 0, 0},
        {2, 0, 1, 0, 1, 1, 0, 0},
        {3, 0, 1, 0, 1, 1, 1, 1},
        {4, 1, 1, 1, 1, 1, 1, 1},
        {5, 1, 2, 1, 2, 1, 1, 1},
        {6, 1, 2, 1, 2, 2, 1, 2},
        {7, 1, 2, 1, 2, 2, 2, 2},
        {8, 2, 2, 2, 2, 2, 2, 2},
        {9, 2, 3, 2, 3, 2, 2, 2},
        {10, 2, 3, 2, 3, 3, 2, 2},
    };

    private TermsBoundaryTests() {
    }

    public static void main(String[] args) {
        String places = "PLACES are x, y, each from - 2^40 to 2^40.";
        Check.holds("Terms", places, TermsBoundaryTests::placesOfTurn);
        Check.holds("Terms", places, TermsBoundaryTests::placesOfLine);
        Check.holds("Terms", places, TermsBoundaryTests::placesOfCorner);
        Check.holds("Terms", places, TermsBoundaryTests::placesOfInside);
        String lines = "LINES 0 .. 15 go from one place to another one, both counted.";
        Check.holds("Terms", lines, TermsBoundaryTests::linesZeroToFifteen);
        Check.holds("Terms", lines, TermsBoundaryTests::bothEndsAreCounted);
        Check.holds("Terms", lines, TermsBoundaryTests::nothingBeyondTheEnds);
        String corners = "CORNERS, at most 64, go round: behind the last one comes the first.";
        Check.holds("Terms", corners, TermsBoundaryTests::cornersAtMost64);
        Check.holds("Terms", corners, TermsBoundaryTests::behindTheLastOfThreeComesTheFirst);
        Check.holds("Terms", corners, TermsBoundaryTests::behindTheLastOf64ComesTheFirst);
        Check.holds("Terms", "WIDE NUMBERS are told by LIMBS: - 1 the sign (- 1, 0, 1)",
            TermsBoundaryTests::limbOfTheSign);
        Check.holds("Terms", "then, without sign, numbers of 32 bits (0 .. 4,294,967,295), the lowest first",
            TermsBoundaryTests::limbsOf32BitsWithoutSign);
        Check.holds("Terms", "as many as it has (one for 0)", TermsBoundaryTests::asManyLimbsAsItHas);
        Check.holds("Terms", "CROSSING: two lines APART have no place in common",
            TermsBoundaryTests::apartByTheLeast);
        Check.holds("Terms", "ALONG they have more than one", TermsBoundaryTests::alongByTheLeast);
        Check.holds("Terms", "else they CROSS in one, which is AT HAND then",
            TermsBoundaryTests::crossInOnePlace);
        Check.holds("Terms", "two fractions in least terms (what is whole by 1)",
            TermsBoundaryTests::fractionsInLeastTerms);
        Check.holds("Terms", "two fractions in least terms (what is whole by 1)",
            TermsBoundaryTests::leastTermsOfCommonPartsBeyond64Bits);
        Check.holds("Terms", "(what is whole by 1)", TermsBoundaryTests::wholeByOne);
        Check.holds("Terms", "the lower part above 0", TermsBoundaryTests::lowerPartAboveZero);
        Check.holds("Terms", "ROUNDED is a fraction to the nearest whole number",
            TermsBoundaryTests::roundedToTheNearest);
        Check.holds("Terms", "of two as near the one farther from 0", TermsBoundaryTests::roundedHalves);
        Check.holds("Terms", "RULES of quotients: 0 down, 1 up, 2 toward 0, 3 away from 0; the nearest, of two as "
            + "near: 4 the one farther from 0, 5 the nearer to 0, 6 the even one.", TermsBoundaryTests::rules);
        Check.end();
    }

    private static void placesOfTurn() {
        int[] atUpperEdge = {-1, -1, 1, 1, 1, 1};
        int[] atLowerEdge = {1, 1, -1, 1, 1, -1};
        for (int i = 0; i < 6; i++) {
            Check.due("turn, number " + i + " is 2^40", atUpperEdge[i], turnWith(i, EDGE));
            Check.due("turn, number " + i + " is - 2^40", atLowerEdge[i], turnWith(i, -EDGE));
            for (long off : OFF_THE_GRID) {
                Check.due("turn, number " + i + " is " + off, GridSums.REFUSED, turnWith(i, off));
            }
        }
    }

    private static int turnWith(int i, long value) {
        long[] v = {0, 0, 1, 0, 0, 1};
        v[i] = value;
        return new GridSums().turn(v[0], v[1], v[2], v[3], v[4], v[5]);
    }

    private static void placesOfLine() {
        for (int i = 0; i < 4; i++) {
            Check.due("line, number " + i + " is 2^40", true, lineWith(i, EDGE));
            Check.due("line, number " + i + " is - 2^40", true, lineWith(i, -EDGE));
            for (long off : OFF_THE_GRID) {
                Check.due("line, number " + i + " is " + off, false, lineWith(i, off));
            }
        }
    }

    private static boolean lineWith(int i, long value) {
        long[] v = {0, 1, 2, 3};
        v[i] = value;
        return new GridSums().line(0, v[0], v[1], v[2], v[3]);
    }

    private static void placesOfCorner() {
        long[] edges = {-EDGE, EDGE};
        for (long edge : edges) {
            Check.due("corner(" + edge + ", 0)", true, new GridSums().corner(edge, 0));
            Check.due("corner(0, " + edge + ")", true, new GridSums().corner(0, edge));
        }
        for (long off : OFF_THE_GRID) {
            Check.due("corner(" + off + ", 0)", false, new GridSums().corner(off, 0));
            Check.due("corner(0, " + off + ")", false, new GridSums().corner(0, off));
        }
    }

    private static void placesOfInside() {
        GridSums grid = Scenes.rowOf(-EDGE, -EDGE, EDGE, -EDGE, EDGE, EDGE, -EDGE, EDGE);
        long[] edges = {-EDGE, EDGE};
        for (long edge : edges) {
            Check.due("inside(" + edge + ", 0)", 0, grid.inside(edge, 0));
            Check.due("inside(0, " + edge + ")", 0, grid.inside(0, edge));
        }
        for (long off : OFF_THE_GRID) {
            Check.due("inside(" + off + ", 0)", GridSums.REFUSED, grid.inside(off, 0));
            Check.due("inside(0, " + off + ")", GridSums.REFUSED, grid.inside(0, off));
        }
    }

    private static void linesZeroToFifteen() {
        GridSums sums = new GridSums();
        Check.due("line 0", true, sums.line(0, 0, 0, 2, 2));
        Check.due("line 15", true, sums.line(15, 0, 2, 2, 0));
        Check.due("line -1", false, sums.line(-1, 0, 0, 2, 2));
        Check.due("line 16", false, sums.line(16, 0, 0, 2, 2));
        Check.due("cross(0, 15)", GridSums.CROSSES, sums.cross(0, 15));
        Check.due("cross(15, 0)", GridSums.CROSSES, sums.cross(15, 0));
        Check.due("cross(-1, 0)", GridSums.BAD, sums.cross(-1, 0));
        Check.due("cross(0, 16)", GridSums.BAD, sums.cross(0, 16));
    }

    /** One line ends on the other, on each of its ends and between them. */
    private static void bothEndsAreCounted() {
        long[] base = Scenes.line(-6, -3, 6, 3);
        dueMeet("on the start", base, Scenes.line(-6, -3, -7, 8), -6, -3);
        dueMeet("on the end", base, Scenes.line(6, 3, -7, 8), 6, 3);
        dueMeet("between", base, Scenes.line(2, 1, -7, 8), 2, 1);
        dueMeet("through the start", base, Scenes.line(-7, -4, -5, -2), -6, -3);
        dueMeet("through the end", base, Scenes.line(7, 2, 5, 4), 6, 3);
        dueMeet("end to end on one line", base, Scenes.line(6, 3, 8, 4), 6, 3);
        dueMeet("start to end on one line", base, Scenes.line(-8, -4, -6, -3), -6, -3);
    }

    private static void dueMeet(String what, long[] first, long[] second, long x, long y) {
        GridSums sums = Scenes.linesBothWays(first, second);
        for (int[] pair : Scenes.pairsBothWays()) {
            String call = what + ": cross(" + pair[0] + ", " + pair[1] + ")";
            Check.due(call, GridSums.CROSSES, sums.cross(pair[0], pair[1]));
            Check.due(call + ", then at(0)", x, sums.at(0));
            Check.due(call + ", then at(1)", y, sums.at(1));
        }
    }

    private static void nothingBeyondTheEnds() {
        long[] base = Scenes.line(-6, -3, 6, 3);
        Scenes.dueCrossBothWays("a step before the start", 0, base, Scenes.line(-8, -3, -5, -6));
        Scenes.dueCrossBothWays("a step behind the end", 0, base, Scenes.line(7, 3, 5, 5));
        Scenes.dueCrossBothWays("a step short of it", 0, base, Scenes.line(2, 2, -7, 8));
        Scenes.dueCrossBothWays("next to the end on one line", 0, base, Scenes.line(8, 4, 10, 5));
        Scenes.dueCrossBothWays("next to the start on one line", 0, base, Scenes.line(-10, -5, -8, -4));
        // The line through both crosses, but 2^82 of the way are 1 short.
        long[] across = Scenes.line(-EDGE, -EDGE, EDGE, EDGE - 1);
        Scenes.dueCrossBothWays("short by the least", 0, across, Scenes.line(-EDGE, EDGE, 1 - EDGE, 1 - EDGE));
        Scenes.dueCrossBothWays("beyond by the least", 1, across, Scenes.line(-EDGE, EDGE, EDGE - 1, EDGE - 2));
    }

    private static GridSums parabola(int n) {
        long[] places = new long[2 * n];
        for (int i = 0; i < n; i++) {
            places[2 * i] = i + 5;
            places[2 * i + 1] = i * i - 7;
        }
        return Scenes.rowOf(places);
    }

    private static void cornersAtMost64() {
        GridSums sums = parabola(63);
        Check.due("area2(0) of 63", 79422, sums.area2(0));
        Check.due("corner 64", true, sums.corner(68, 3962));
        Check.due("area2(0) of 64", 83328, sums.area2(0));
        Check.due("corner 65", false, sums.corner(69, 4089));
        Check.due("area2(0) of 64 still", 83328, sums.area2(0));
        Check.due("count(1)", 64, sums.count(1));
    }

    private static void behindTheLastOfThreeComesTheFirst() {
        GridSums sums = Scenes.rowOf(1, 1, 9, 1, 9, 9);
        Check.due("area2(0)", 64, sums.area2(0));
        Check.due("on the way from the last to the first", 0, sums.inside(5, 5));
        Check.due("a step within it", 1, sums.inside(5, 4));
        Check.due("a step without it", -1, sums.inside(5, 6));
    }

    private static void behindTheLastOf64ComesTheFirst() {
        GridSums sums = parabola(64);
        Check.due("area2(0)", 83328, sums.area2(0));
        Check.due("on the way from the last to the first", 0, sums.inside(6, 56));
        Check.due("a step within it", 1, sums.inside(6, 55));
        Check.due("a step without it", -1, sums.inside(6, 57));
        Check.due("on the last one", 0, sums.inside(68, 3962));
        Check.due("on the first one", 0, sums.inside(5, -7));
    }

    private static void limbOfTheSign() {
        GridSums sums = new GridSums();
        Check.due("sign of 0", 0, sums.product(0, LEAST, -1));
        Check.due("sign of 1", 1, sums.product(1, 1, -1));
        Check.due("sign of - 1", -1, sums.product(1, -1, -1));
        Check.due("sign of 2^31", 1, sums.product(1L << 31, 1, -1));
        Check.due("sign of 2^63", 1, sums.product(LEAST, -1, -1));
        Check.due("sign of - 2^63", -1, sums.product(LEAST, 1, -1));
        Check.due("sign of 2^64", 1, sums.product(1L << 32, 1L << 32, -1));
        Check.due("sign of - 2^64", -1, sums.product(1L << 32, -(1L << 32), -1));
        Check.due("sign of 2^126", 1, sums.product(LEAST, LEAST, -1));
        Check.due("sign of - 2^126 + 2^63", -1, sums.product(LEAST, MOST, -1));
    }

    private static void limbsOf32BitsWithoutSign() {
        dueProduct(1L << 31, 1, 1L << 31);
        dueProduct(65535, 65537, FULL_LIMB);
        dueProduct(LEAST, 1, 0, 1L << 31);
        dueProduct((1L << 32) - 1, (1L << 32) + 1, FULL_LIMB, FULL_LIMB);
        dueProduct(1L << 48, 1L << 47, 0, 0, 1L << 31);
        dueProduct((1L << 48) - 1, (1L << 48) + 1, FULL_LIMB, FULL_LIMB, FULL_LIMB);
        dueProduct(1000000007, 4000000009L, 988754495, 931322583);
        dueProduct(MOST, MOST, 1, 0, FULL_LIMB, 1073741823);
    }

    private static void asManyLimbsAsItHas() {
        Check.dueLimbs("0", limb -> new GridSums().product(0, 0, limb), 0, 0);
        dueProduct(1, 1, 1);
        dueProduct(65535, 65537, FULL_LIMB);
        dueProduct(65536, 65536, 0, 1);
        dueProduct((1L << 32) - 1, (1L << 32) + 1, FULL_LIMB, FULL_LIMB);
        dueProduct(1L << 32, 1L << 32, 0, 0, 1);
        dueProduct((1L << 48) - 1, (1L << 48) + 1, FULL_LIMB, FULL_LIMB, FULL_LIMB);
        dueProduct(1L << 48, 1L << 48, 0, 0, 0, 1);
        Check.dueLimbs("2^126", limb -> new GridSums().product(LEAST, LEAST, limb), 1, 0, 0, 0, 1L << 30);
    }

    /** The product and the same one below 0. */
    private static void dueProduct(long a, long b, long... limbs) {
        int sign = Long.signum(a) * Long.signum(b);
        IntToLongFunction one = limb -> new GridSums().product(a, b, limb);
        IntToLongFunction other = limb -> new GridSums().product(a, -b, limb);
        Check.dueLimbs("product of " + a + ", " + b, one, sign, limbs);
        Check.dueLimbs("product of " + a + ", " + -b, other, -sign, limbs);
    }

    private static void apartByTheLeast() {
        Scenes.dueCrossBothWays("a step beside", 0, Scenes.line(0, 0, 6, 4), Scenes.line(2, 1, 8, 5));
        Scenes.dueCrossBothWays("a step before", 0, Scenes.line(0, 0, 6, 4), Scenes.line(9, 6, 12, 8));
        Scenes.dueCrossBothWays("upright, a step before", 0, Scenes.line(2, 0, 2, 4), Scenes.line(2, 5, 2, 9));
        Scenes.dueCrossBothWays("level, a step before", 0, Scenes.line(0, 2, 4, 2), Scenes.line(5, 2, 9, 2));
        Scenes.dueCrossBothWays("2^41 long, 2^-41 beside", 0,
            Scenes.line(-EDGE, -EDGE, EDGE - 1, EDGE - 2), Scenes.line(1 - EDGE, 1 - EDGE, EDGE, EDGE - 1));
    }

    private static void alongByTheLeast() {
        Scenes.dueCrossBothWays("two places", 2, Scenes.line(0, 0, 6, 4), Scenes.line(3, 2, 9, 6));
        Scenes.dueCrossBothWays("upright, two places", 2, Scenes.line(2, 0, 2, 4), Scenes.line(2, 3, 2, 9));
        Scenes.dueCrossBothWays("level, two places", 2, Scenes.line(0, 2, 4, 2), Scenes.line(3, 2, 9, 2));
        Scenes.dueCrossBothWays("one within the other", 2, Scenes.line(0, 0, 9, 6), Scenes.line(3, 2, 6, 4));
        Scenes.dueCrossBothWays("one end in common", 2, Scenes.line(0, 0, 9, 6), Scenes.line(0, 0, 3, 2));
        Scenes.dueCrossBothWays("the other end in common", 2, Scenes.line(0, 0, 9, 6), Scenes.line(6, 4, 9, 6));
        Scenes.dueCrossBothWays("the same", 2, Scenes.line(0, 0, 3, 2), Scenes.line(0, 0, 3, 2));
        Scenes.dueCrossBothWays("across the grid", 2,
            Scenes.line(-EDGE, -EDGE, 1, 1), Scenes.line(0, 0, EDGE, EDGE));
    }

    private static void crossInOnePlace() {
        long[] base = Scenes.line(0, 0, 6, 4);
        dueMeet("end to end, not along", base, Scenes.line(6, 4, 9, 6), 6, 4);
        dueMeet("upright, end to end", Scenes.line(2, 0, 2, 4), Scenes.line(2, 4, 2, 9), 2, 4);
        dueMeet("level, end to end", Scenes.line(0, 2, 4, 2), Scenes.line(4, 2, 9, 2), 4, 2);
        dueMeet("one start, nearly one way", Scenes.line(-EDGE, -EDGE, EDGE, EDGE - 1),
            Scenes.line(-EDGE, -EDGE, EDGE - 1, EDGE - 2), -EDGE, -EDGE);
        dueMeet("a span of 2^64", Scenes.line(0, 0, 1L << 32, 0), Scenes.line(1, -1, 1, (1L << 32) - 1), 1, 0);
        dueMeet("a span of 2^83", Scenes.line(-EDGE, -EDGE, EDGE, EDGE), Scenes.line(-EDGE, EDGE, EDGE, -EDGE), 0, 0);
        GridSums sums = Scenes.linesBothWays(base, Scenes.line(0, 4, 6, 0));
        Check.due("nothing is at hand yet", 0, sums.count(2));
        Check.due("they cross", GridSums.CROSSES, sums.cross(0, 1));
        Check.due("a place is at hand then", 1, sums.count(2));
        Scenes.dueWholePlace("at hand", sums, 3, 2);
    }

    private static void fractionsInLeastTerms() {
        dueOnAxes(0, 2, 4, new long[] {1}, new long[] {2});
        dueOnAxes(0, 6, 9, new long[] {2}, new long[] {3});
        dueOnAxes(5, 35, 49, new long[] {40}, new long[] {7});
        dueOnAxes(0, 1L << 39, EDGE, new long[] {1}, new long[] {2});
        dueOnAxes(0, 1, EDGE, new long[] {1}, new long[] {0, 256});
        dueOnAxes(0, 1000000006, 3000000018L, new long[] {1}, new long[] {3});
        dueOnAxes(0, 2, 3, new long[] {2}, new long[] {3});
    }

    /**
     * A level and an upright line meet in a whole place, so that all of what their lengths make is
     * in common: 2 * 2^64 + 1, 121,937 * 2^64 + 1, 2^80, 2^82, 2^64 - 1, 2^63 and 2^64.
     */
    private static void leastTermsOfCommonPartsBeyond64Bits() {
        long[][] lengths = {
            {22871553L, 1613073154561L}, {1099514238867L, 2045758529179L}, {EDGE, EDGE}, {2 * EDGE, 2 * EDGE},
            {4294967295L, 4294967297L}, {1L << 32, 1L << 31}, {1L << 32, 1L << 32},
        };
        for (long[] pair : lengths) {
            dueWholeOfLengths(pair[0], pair[1]);
            dueWholeOfLengths(pair[1], pair[0]);
        }
    }

    private static void dueWholeOfLengths(long level, long upright) {
        long x = level / 3 - EDGE;
        long y = upright / 5 - EDGE;
        GridSums sums = Scenes.linesBothWays(
            Scenes.line(-EDGE, y, level - EDGE, y), Scenes.line(x, -EDGE, x, upright - EDGE));
        for (int[] pair : Scenes.pairsBothWays()) {
            String call = "lengths " + level + ", " + upright + ": cross(" + pair[0] + ", " + pair[1] + ")";
            Check.due(call, GridSums.CROSSES, sums.cross(pair[0], pair[1]));
            Scenes.dueWholePlace(call, sums, x, y);
        }
    }

    private static void dueOnAxes(long whole, long part, long parts, long[] upper, long[] lower) {
        for (int axis = 0; axis < 2; axis++) {
            int a = axis;
            for (int sign = -1; sign < 2; sign += 2) {
                String call = "axis " + a + ": " + sign + " * (" + whole + " + " + part + " / " + parts + ")";
                GridSums sums = Scenes.placeOnAxis(a, sign, whole, part, parts);
                Check.dueLimbs(call + ", upper", limb -> sums.exact(a, 0, limb), sign, upper);
                Check.dueLimbs(call + ", lower", limb -> sums.exact(a, 1, limb), 1, lower);
            }
        }
    }

    private static void wholeByOne() {
        GridSums zero = Scenes.linesBothWays(Scenes.line(-6, 0, 8, 0), Scenes.line(0, -3, 0, 5));
        for (int[] pair : Scenes.pairsBothWays()) {
            zero.cross(pair[0], pair[1]);
            Check.due("lower of 0, limb 0", 1, zero.exact(0, 1, 0));
            Check.due("upper of 0, sign", 0, zero.exact(0, 0, -1));
        }
        Scenes.dueWholePlace("0 by 1", zero, 0, 0);
        GridSums edge = Scenes.linesBothWays(Scenes.line(-EDGE, -EDGE, -EDGE, EDGE), Scenes.line(-EDGE, EDGE, EDGE, -EDGE));
        Check.due("at a corner of the grid", GridSums.CROSSES, edge.cross(0, 1));
        Scenes.dueWholePlace("- 2^40 and 2^40 by 1", edge, -EDGE, EDGE);
        GridSums far = Scenes.linesBothWays(Scenes.line(-EDGE, -EDGE, EDGE, EDGE), Scenes.line(-EDGE, EDGE - 6, EDGE - 6, -EDGE));
        Check.due("across the grid", GridSums.CROSSES, far.cross(0, 1));
        Scenes.dueWholePlace("- 3 by 1", far, -3, -3);
    }

    private static void lowerPartAboveZero() {
        GridSums below = Scenes.linesBothWays(Scenes.line(0, 0, -6, -3), Scenes.line(0, -1, -1, 0));
        GridSums above = Scenes.linesBothWays(Scenes.line(0, 0, 6, 3), Scenes.line(0, 1, 1, 0));
        for (int[] pair : Scenes.pairsBothWays()) {
            Check.due("below 0", GridSums.CROSSES, below.cross(pair[0], pair[1]));
            Check.dueLimbs("- 2 / 3, upper", limb -> below.exact(0, 0, limb), -1, 2);
            Check.dueLimbs("- 2 / 3, lower", limb -> below.exact(0, 1, limb), 1, 3);
            Check.due("above 0", GridSums.CROSSES, above.cross(pair[0], pair[1]));
            Check.dueLimbs("1 / 3, upper", limb -> above.exact(1, 0, limb), 1, 1);
            Check.dueLimbs("1 / 3, lower", limb -> above.exact(1, 1, limb), 1, 3);
        }
    }

    private static void roundedToTheNearest() {
        dueRounded(0, 1, 3, 0);
        dueRounded(0, 2, 3, 1);
        dueRounded(7, 0, 3, 7);
        dueRounded(0, (1L << 39) - 1, EDGE - 1, 0);
        dueRounded(0, 1L << 39, EDGE - 1, 1);
        dueRounded(EDGE - 1, (1L << 39) - 1, EDGE - 1, EDGE - 1);
        dueRounded(EDGE - 1, 1L << 39, EDGE - 1, EDGE);
        dueRounded(EDGE - 1, EDGE - 2, EDGE - 1, EDGE);
        dueRounded(EDGE - 1, 1, EDGE - 1, EDGE - 1);
        dueRounded(0, 1, EDGE, 0);
    }

    private static void roundedHalves() {
        dueRounded(0, 1, 2, 1);
        dueRounded(1, 1, 2, 2);
        dueRounded(2, 1, 2, 3);
        dueRounded(3, 3, 6, 4);
        dueRounded(0, 1L << 39, EDGE, 1);
        dueRounded(EDGE - 1, 1, 2, EDGE);
        dueRounded(EDGE - 2, 1L << 39, EDGE, EDGE - 1);
    }

    private static void dueRounded(long whole, long part, long parts, long want) {
        for (int axis = 0; axis < 2; axis++) {
            String call = "axis " + axis + ": " + whole + " + " + part + " / " + parts;
            GridSums above = Scenes.placeOnAxis(axis, 1, whole, part, parts);
            Check.due(call, want, above.at(axis));
            Check.due(call + ", the other axis", 0, above.at(1 - axis));
            GridSums below = Scenes.placeOnAxis(axis, -1, whole, part, parts);
            Check.due(call + ", below 0", -want, below.at(axis));
            Check.due(call + ", below 0, the other axis", 0, below.at(1 - axis));
        }
    }

    private static void rules() {
        for (int[] row : BY_FOUR) {
            int a = row[0];
            for (int rule = 0; rule < 7; rule++) {
                GridSums sums = new GridSums();
                int want = row[rule + 1];
                String call = a + " by 4 by rule " + rule;
                Check.due("over, " + call, want, sums.over(a, 4, rule));
                Check.due("over, signs changed, " + call, want, sums.over(-a, -4, rule));
                Check.due("ratio, " + call, want, sums.ratio(a, 3, 12, rule));
                Check.due("ratio, signs changed, " + call, want, sums.ratio(a, -3, -12, rule));
                Check.due("ratio, 2^62 times, " + call, want, sums.ratio(a, 1L << 60, 1L << 62, rule));
            }
        }
    }
}
