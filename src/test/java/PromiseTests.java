/** Each promise by examples: ordinary inputs, the edges that the document names, wrong inputs. */
public final class PromiseTests {
    private static final long EDGE = Check.EDGE;
    private static final long NONE = Check.NONE;
    private static final long LEAST = Long.MIN_VALUE;
    private static final long MOST = Long.MAX_VALUE;

    private PromiseTests() {
    }

    public static void main(String[] args) {
        promise1NewObject();
        promise2Turn();
        promise3Line();
        promise3LineKeepsWhatIsAtHand();
        promise4CrossOfOthers();
        promise4CrossOfParallels();
        promise4CrossBadChangesNothing();
        promise5At();
        promise6Exact();
        promise6ExactWide();
        promise7Corner();
        promise8Area2();
        promise9Inside();
        promise9InsideOfStarAndOfFlatRows();
        promise10Over();
        promise11Product();
        promise12Ratio();
        promise13Share();
        promise14Digit();
        promise15Clear();
        promise16Count();
        Check.end();
    }

    private static void promise1NewObject() {
        GridSums sums = new GridSums();
        dueNothingIsThere("new object", sums);
        GridSums other = new GridSums();
        sums.line(0, 0, 0, 1, 1);
        sums.corner(0, 0);
        sums.cross(0, 0);
        dueNothingIsThere("another new object", other);
    }

    private static void dueNothingIsThere(String when, GridSums sums) {
        for (int what = 0; what < 3; what++) {
            Check.due(when + ": count(" + what + ")", 0, sums.count(what));
        }
        for (int k = 0; k < 16; k++) {
            Check.due(when + ": cross(" + k + ", " + k + ")", -1, sums.cross(k, k));
        }
        Check.due(when + ": at(0)", NONE, sums.at(0));
        Check.due(when + ": at(1)", NONE, sums.at(1));
        Check.due(when + ": exact(0, 0, 0)", NONE, sums.exact(0, 0, 0));
        Check.due(when + ": exact(1, 1, 99)", NONE, sums.exact(1, 1, 99));
        Check.due(when + ": area2(-1)", 0, sums.area2(-1));
        Check.due(when + ": inside(0, 0)", -2, sums.inside(0, 0));
    }

    private static void promise2Turn() {
        GridSums sums = new GridSums();
        Check.due("turn left", 1, sums.turn(0, 0, 1, 0, 0, 1));
        Check.due("turn right", -1, sums.turn(0, 0, 1, 0, 0, -1));
        Check.due("turn left from elsewhere", 1, sums.turn(5, 5, 5, 9, 4, -3));
        Check.due("turn on the line, between", 0, sums.turn(0, 0, 4, 2, 2, 1));
        Check.due("turn on the line, before", 0, sums.turn(0, 0, 4, 2, -2, -1));
        Check.due("turn on the line, beyond", 0, sums.turn(0, 0, 4, 2, 8, 4));
        Check.due("turn both are one", 0, sums.turn(3, 3, 3, 3, 7, -7));
        Check.due("turn all are one", 0, sums.turn(3, 3, 3, 3, 3, 3));
        Check.due("turn whole grid, left", 1, sums.turn(-EDGE, -EDGE, EDGE, EDGE, EDGE - 1, EDGE));
        Check.due("turn whole grid, right", -1, sums.turn(-EDGE, -EDGE, EDGE, EDGE, EDGE, EDGE - 1));
        Check.due("turn whole grid, on", 0, sums.turn(-EDGE, -EDGE, EDGE, EDGE, 1, 1));
        for (int i = 0; i < 6; i++) {
            Check.due("turn too far " + i, -2, turnWith(sums, i, EDGE + 1));
            Check.due("turn too low " + i, -2, turnWith(sums, i, -EDGE - 1));
            Check.due("turn least " + i, -2, turnWith(sums, i, LEAST));
            Check.due("turn most " + i, -2, turnWith(sums, i, MOST));
            Check.due("turn at the edge " + i, true, turnWith(sums, i, EDGE) != -2);
            Check.due("turn at the other edge " + i, true, turnWith(sums, i, -EDGE) != -2);
        }
        Check.due("turn leaves no place at hand", 0, sums.count(2));
    }

    private static int turnWith(GridSums sums, int i, long value) {
        long[] v = {0, 0, 1, 0, 0, 1};
        v[i] = value;
        return sums.turn(v[0], v[1], v[2], v[3], v[4], v[5]);
    }

    private static void promise3Line() {
        GridSums sums = new GridSums();
        for (int k = 0; k < 16; k++) {
            Check.due("line " + k, true, sums.line(k, k, 0, k, 10));
            Check.due("lines told", k + 1, sums.count(0));
        }
        int[] wrongNumbers = {-1, 16, 17, Integer.MIN_VALUE, Integer.MAX_VALUE};
        for (int k : wrongNumbers) {
            Check.due("no line " + k, false, sums.line(k, 0, 0, 1, 1));
        }
        Check.due("lines told still", 16, sums.count(0));
        sums.clear();
        for (int i = 0; i < 4; i++) {
            Check.due("line too far " + i, false, lineWith(sums, i, EDGE + 1));
            Check.due("line too low " + i, false, lineWith(sums, i, -EDGE - 1));
            Check.due("line least " + i, false, lineWith(sums, i, LEAST));
        }
        Check.due("line without length", false, sums.line(0, 7, -7, 7, -7));
        Check.due("no line is told", 0, sums.count(0));
        Check.due("line across the grid", true, sums.line(0, -EDGE, EDGE, EDGE, -EDGE));
        Check.due("line upright", true, sums.line(1, 3, 0, 3, 1));
        Check.due("line level", true, sums.line(2, 0, 3, 1, 3));
        Check.due("lines told of three", 3, sums.count(0));
    }

    private static boolean lineWith(GridSums sums, int i, long value) {
        long[] v = {0, 1, 2, 3};
        v[i] = value;
        return sums.line(0, v[0], v[1], v[2], v[3]);
    }

    private static void promise3LineKeepsWhatIsAtHand() {
        GridSums sums = new GridSums();
        sums.line(0, 0, 0, 10, 10);
        sums.line(1, 0, 10, 10, 0);
        sums.cross(0, 1);
        Check.due("line told anew", true, sums.line(0, 100, 100, 200, 101));
        Check.due("line told anew counts once", 2, sums.count(0));
        Check.due("place stays at hand", 1, sums.count(2));
        Check.due("its x", 5, sums.at(0));
        Check.due("its y", 5, sums.at(1));
        Check.due("the new line is the one that counts", 0, sums.cross(0, 1));
        sums.line(2, 0, 0, 10, 10);
        sums.cross(1, 2);
        Check.due("refused line", false, sums.line(2, 4, 4, 4, 4));
        Check.due("refused line far off", false, sums.line(2, 4, 4, 4, EDGE + 1));
        Check.due("place stays at hand behind refusals", 5, sums.at(0));
        Check.due("line stays behind refusals", 1, sums.cross(1, 2));
    }

    private static void promise4CrossOfOthers() {
        dueCross("in the middle", 1, 0, 0, 10, 10, 0, 10, 10, 0);
        dueCross("apart, first too short", 0, 0, 0, 4, 4, 0, 10, 10, 0);
        dueCross("apart, first behind", 0, 6, 6, 9, 9, 0, 10, 10, 0);
        dueCross("apart, second too short", 0, 0, 0, 10, 10, 0, 10, 4, 6);
        dueCross("end on the middle", 1, 0, 0, 10, 10, 5, 5, 9, 0);
        dueCross("start on start", 1, 0, 0, 10, 10, 0, 0, 9, 0);
        dueCross("start on end", 1, 0, 0, 10, 10, 10, 10, 9, 0);
        dueCross("just short of it", 0, 0, 0, 10, 10, 6, 5, 9, 0);
        dueCross("across the grid", 1, -EDGE, -EDGE, EDGE, EDGE, EDGE, -EDGE, -EDGE, EDGE);
        dueCross("nearly parallel", 0, -EDGE, -EDGE, EDGE, EDGE - 1, -EDGE, 1 - EDGE, EDGE, EDGE);
        dueCross("nearly parallel, at an end", 1, -EDGE, -EDGE, EDGE, EDGE, -EDGE, -EDGE, EDGE, EDGE - 1);
    }

    private static void promise4CrossOfParallels() {
        dueCross("parallel apart", 0, 0, 0, 10, 10, 0, 1, 10, 11);
        dueCross("on one line apart", 0, 0, 0, 10, 10, 11, 11, 20, 20);
        dueCross("end to end", 1, 0, 0, 10, 10, 10, 10, 30, 30);
        dueCross("end to end, other way", 1, 0, 0, 10, 10, 30, 30, 10, 10);
        dueCross("start to start", 1, 0, 0, 10, 10, 0, 0, -4, -4);
        dueCross("along in part", 2, 0, 0, 10, 10, 5, 5, 20, 20);
        dueCross("along within", 2, 0, 0, 10, 10, 3, 3, 7, 7);
        dueCross("along the same", 2, 0, 0, 10, 10, 10, 10, 0, 0);
        dueCross("upright apart", 0, 0, 0, 0, 3, 0, 4, 0, 9);
        dueCross("upright end to end", 1, 0, 0, 0, 3, 0, 3, 0, 9);
        dueCross("upright along", 2, 0, 0, 0, 3, 0, 2, 0, 9);
        dueCross("upright beside", 0, 0, 0, 0, 3, 1, 0, 1, 3);
        dueCross("level along", 2, 0, 0, 3, 0, 2, 0, 9, 0);
        dueCross("level end to end", 1, 0, 0, 3, 0, 3, 0, 9, 0);
        GridSums sums = new GridSums();
        sums.line(3, 0, 0, 4, 2);
        Check.due("a line with itself", 2, sums.cross(3, 3));
        sums.line(4, 4, 2, 8, 4);
        sums.cross(3, 4);
        dueFraction("end to end", sums, 0, 4, 1);
        dueFraction("end to end", sums, 1, 2, 1);
        sums.line(5, 0, 0, -4, -2);
        sums.cross(3, 5);
        dueFraction("start to start", sums, 0, 0, 1);
        dueFraction("start to start", sums, 1, 0, 1);
        sums.line(6, 3, -5, 7, -3);
        sums.line(7, 3, -5, -1, -7);
        sums.cross(6, 7);
        dueFraction("start to start off 0", sums, 0, 3, 1);
        dueFraction("start to start off 0", sums, 1, -5, 1);
    }

    /** Both orders, both ways of each line: the answer is the same. */
    private static void dueCross(String what, int want, long... v) {
        GridSums sums = new GridSums();
        sums.line(0, v[0], v[1], v[2], v[3]);
        sums.line(1, v[4], v[5], v[6], v[7]);
        sums.line(14, v[2], v[3], v[0], v[1]);
        sums.line(15, v[6], v[7], v[4], v[5]);
        int[][] pairs = {{0, 1}, {1, 0}, {14, 1}, {1, 14}, {0, 15}, {15, 0}, {14, 15}, {15, 14}};
        for (int[] pair : pairs) {
            String call = what + ": cross(" + pair[0] + ", " + pair[1] + ")";
            Check.due(call, want, sums.cross(pair[0], pair[1]));
            Check.due(call + " at hand", want == 1 ? 1 : 0, sums.count(2));
            Check.due(call + " at", want == 1, sums.at(0) != NONE);
        }
    }

    private static void promise4CrossBadChangesNothing() {
        GridSums sums = new GridSums();
        sums.line(0, 0, 0, 10, 10);
        sums.line(15, 0, 10, 10, 0);
        sums.line(2, 0, 100, 1, 100);
        Check.due("cross", 1, sums.cross(0, 15));
        int[] untold = {-1, 1, 14, 16, Integer.MIN_VALUE, Integer.MAX_VALUE};
        for (int k : untold) {
            Check.due("cross(0, " + k + ")", -1, sums.cross(0, k));
            Check.due("cross(" + k + ", 0)", -1, sums.cross(k, 0));
            Check.due("cross(" + k + ", " + k + ")", -1, sums.cross(k, k));
            Check.due("still at hand", 1, sums.count(2));
            Check.due("still x", 5, sums.at(0));
        }
        Check.due("apart", 0, sums.cross(0, 2));
        Check.due("nothing at hand", 0, sums.count(2));
        Check.due("bad again", -1, sums.cross(0, 1));
        Check.due("still nothing at hand", 0, sums.count(2));
        sums.cross(0, 15);
        Check.due("along", 2, sums.cross(0, 0));
        Check.due("nothing at hand behind along", NONE, sums.at(1));
        Check.due("no fraction behind along", NONE, sums.exact(1, 0, 0));
    }

    private static void promise5At() {
        GridSums sums = new GridSums();
        sums.line(0, 0, 0, 4, 4);
        sums.line(1, 0, 1, 1, 0);
        sums.line(2, 0, 0, -4, -4);
        sums.line(3, 0, -1, -1, 0);
        sums.line(4, 0, 3, 3, 0);
        sums.line(5, 0, 0, 1, 2);
        sums.line(6, 0, 1, 9, 1);
        sums.cross(0, 1);
        dueAt("a half", sums, 1, 1);
        sums.cross(2, 3);
        dueAt("a half below 0", sums, -1, -1);
        sums.cross(0, 4);
        dueAt("three halves", sums, 2, 2);
        sums.cross(5, 6);
        dueAt("a half and 1", sums, 1, 1);
        sums.line(7, 0, 0, 3, 3);
        sums.line(8, 0, 1, 2, 0);
        sums.cross(7, 8);
        dueAt("two thirds", sums, 1, 1);
        sums.line(9, 0, 0, 6, 3);
        sums.line(10, 0, 1, 1, 0);
        sums.cross(9, 10);
        dueAt("two thirds, one third", sums, 1, 0);
        sums.line(11, -EDGE, EDGE, 0, EDGE);
        sums.line(12, -EDGE, EDGE, -EDGE, -EDGE);
        sums.cross(11, 12);
        dueAt("the grid's own corner", sums, -EDGE, EDGE);
        int[] wrongAxes = {-1, 2, 3, Integer.MIN_VALUE, Integer.MAX_VALUE};
        for (int axis : wrongAxes) {
            Check.due("at(" + axis + ")", NONE, sums.at(axis));
        }
        Check.due("at changes nothing", 1, sums.count(2));
    }

    private static void dueAt(String what, GridSums sums, long x, long y) {
        Check.due(what + ": at(0)", x, sums.at(0));
        Check.due(what + ": at(1)", y, sums.at(1));
        Check.due(what + ": at(0) again", x, sums.at(0));
    }

    private static void promise6Exact() {
        GridSums sums = new GridSums();
        sums.line(0, 0, 0, 6, 3);
        sums.line(1, 0, 1, 1, 0);
        sums.cross(0, 1);
        dueFraction("thirds", sums, 0, 2, 3);
        dueFraction("thirds", sums, 1, 1, 3);
        sums.line(2, 0, 0, -6, -3);
        sums.line(3, 0, -1, -1, 0);
        sums.cross(3, 2);
        dueFraction("thirds below 0", sums, 0, -2, 3);
        dueFraction("thirds below 0", sums, 1, -1, 3);
        sums.line(4, 0, 0, 10, 10);
        sums.line(5, 0, 10, 10, 0);
        sums.cross(4, 5);
        dueFraction("whole", sums, 0, 5, 1);
        dueFraction("whole", sums, 1, 5, 1);
        sums.line(6, -3, 0, 5, 0);
        sums.line(7, 0, -8, 0, 8);
        sums.cross(6, 7);
        dueFraction("zero", sums, 0, 0, 1);
        dueFraction("zero", sums, 1, 0, 1);
        int[] wrongOnes = {-1, 2, Integer.MIN_VALUE, Integer.MAX_VALUE};
        for (int other : wrongOnes) {
            Check.due("another axis", NONE, sums.exact(other, 0, 0));
            Check.due("another axis, no limb", NONE, sums.exact(other, 1, 77));
            Check.due("another part", NONE, sums.exact(0, other, 0));
            Check.due("another part, no limb", NONE, sums.exact(1, other, -2));
        }
        dueNoLimbs(sums, 0, 0, 1);
        Check.due("a throw changes nothing", 1, sums.count(2));
    }

    private static void promise6ExactWide() {
        GridSums sums = new GridSums();
        sums.line(0, -EDGE, -EDGE, EDGE, EDGE - 1);
        sums.line(1, -EDGE, EDGE, EDGE - 1, -EDGE);
        sums.cross(0, 1);
        duePart(sums, 0, 0, -1, 0, 256);
        duePart(sums, 0, 1, 1, 1, 4294966272L, 524287);
        duePart(sums, 1, 0, -1, 0, 4294967040L, 262143);
        duePart(sums, 1, 1, 1, 1, 4294966272L, 524287);
        sums.line(2, -EDGE, -5, 7, -EDGE);
        sums.cross(0, 2);
        duePart(sums, 0, 0, -1, 0, 16128, 4294901760L, 33554431);
        duePart(sums, 0, 1, 1, 4294967289L, 767, 262144);
        duePart(sums, 1, 0, -1, 4294967261L, 16639, 0, 33554432);
        duePart(sums, 1, 1, 1, 4294967289L, 767, 262144);
    }

    private static void duePart(GridSums sums, int axis, int part, int sign, long... limbs) {
        String name = "exact(" + axis + ", " + part + ", ";
        Check.due(name + "-1)", sign, sums.exact(axis, part, -1));
        for (int i = 0; i < limbs.length; i++) {
            Check.due(name + i + ")", limbs[i], sums.exact(axis, part, i));
        }
        dueNoLimbs(sums, axis, part, limbs.length);
    }

    /** A fraction whose parts have one limb each. */
    private static void dueFraction(String what, GridSums sums, int axis, long upper, long lower) {
        Check.due(what + ": a place is at hand", 1, sums.count(2));
        duePart(sums, axis, 0, Long.signum(upper), Math.abs(upper));
        duePart(sums, axis, 1, 1, lower);
    }

    private static void dueNoLimbs(GridSums sums, int axis, int part, int limbs) {
        Check.due("last limb there", true, sums.exact(axis, part, limbs - 1) >= 0);
        int[] none = {-2, limbs, limbs + 1, Integer.MIN_VALUE, Integer.MAX_VALUE};
        for (int limb : none) {
            String call = "exact(" + axis + ", " + part + ", " + limb + ")";
            Check.dueThrow(call, Check.INDEX, () -> sums.exact(axis, part, limb));
        }
    }

    private static void promise7Corner() {
        GridSums sums = new GridSums();
        long[] off = {EDGE + 1, -EDGE - 1, LEAST, MOST};
        for (long value : off) {
            Check.due("corner x off", false, sums.corner(value, 0));
            Check.due("corner y off", false, sums.corner(0, value));
        }
        Check.due("none yet", 0, sums.count(1));
        for (int i = 0; i < 64; i++) {
            Check.due("corner " + i, true, sums.corner(i % 2 == 0 ? EDGE : -EDGE, i % 3 == 0 ? -EDGE : EDGE));
            Check.due("corners", i + 1, sums.count(1));
        }
        Check.due("corner 64", false, sums.corner(0, 0));
        Check.due("corner 65", false, sums.corner(1, 1));
        Check.due("64 corners", 64, sums.count(1));
        sums.clear();
        Check.due("a corner behind clear", true, sums.corner(0, 0));
        Check.due("the same corner again", true, sums.corner(0, 0));
        Check.due("two corners", 2, sums.count(1));
    }

    private static void promise8Area2() {
        GridSums sums = new GridSums();
        dueAreaZero("none", sums);
        sums.corner(3, 5);
        dueAreaZero("one", sums);
        sums.corner(10, 7);
        dueAreaZero("two", sums);
        sums.corner(4, 9);
        Check.due("left round, sign", 1, sums.area2(-1));
        Check.due("left round", 26, sums.area2(0));
        dueNoAreaLimbs(sums, 1);
        GridSums right = rowOf(0, 0, 0, 10, 10, 10, 10, 0);
        Check.due("right round, sign", -1, right.area2(-1));
        Check.due("right round", 200, right.area2(0));
        GridSums eight = rowOf(0, 0, 4, 4, 4, 0, 0, 4);
        dueAreaZero("a row that goes both ways round", eight);
        GridSums grid = rowOf(-EDGE, -EDGE, EDGE, -EDGE, EDGE, EDGE, -EDGE, EDGE);
        Check.due("the grid, sign", 1, grid.area2(-1));
        Check.due("the grid, limb 0", 0, grid.area2(0));
        Check.due("the grid, limb 1", 0, grid.area2(1));
        Check.due("the grid, limb 2", 1L << 19, grid.area2(2));
        dueNoAreaLimbs(grid, 3);
        GridSums two = rowOf(0, 0, 0, EDGE, 1 << 20, 0);
        Check.due("two limbs, sign", -1, two.area2(-1));
        Check.due("two limbs, limb 0", 0, two.area2(0));
        Check.due("two limbs, limb 1", 1L << 28, two.area2(1));
        dueNoAreaLimbs(two, 2);
        Check.due("area2 changes nothing", 3, two.count(1));
    }

    private static void dueAreaZero(String what, GridSums sums) {
        Check.due(what + ": sign", 0, sums.area2(-1));
        Check.due(what + ": limb 0", 0, sums.area2(0));
        dueNoAreaLimbs(sums, 1);
    }

    private static void dueNoAreaLimbs(GridSums sums, int limbs) {
        int[] none = {-2, limbs, limbs + 1, 64, Integer.MIN_VALUE, Integer.MAX_VALUE};
        for (int limb : none) {
            Check.dueThrow("area2(" + limb + ")", Check.INDEX, () -> sums.area2(limb));
        }
    }

    private static GridSums rowOf(long... places) {
        GridSums sums = new GridSums();
        for (int i = 0; i < places.length; i += 2) {
            Check.due("corner of a row", true, sums.corner(places[i], places[i + 1]));
        }
        return sums;
    }

    private static void promise9Inside() {
        GridSums sums = rowOf(0, 0, 10, 0);
        Check.due("two corners", -2, sums.inside(5, 0));
        sums.corner(10, 10);
        sums.corner(0, 10);
        Check.due("within", 1, sums.inside(5, 5));
        Check.due("just within", 1, sums.inside(1, 9));
        Check.due("on the left", 0, sums.inside(0, 5));
        Check.due("on the first edge", 0, sums.inside(5, 0));
        Check.due("on the last edge's corner", 0, sums.inside(0, 10));
        Check.due("on a corner", 0, sums.inside(10, 10));
        Check.due("left of it", -1, sums.inside(-1, 5));
        Check.due("right of it", -1, sums.inside(11, 5));
        Check.due("left of a level edge", -1, sums.inside(-1, 0));
        Check.due("left of the upper edge", -1, sums.inside(-1, 10));
        Check.due("right of a level edge", -1, sums.inside(11, 0));
        Check.due("above", -1, sums.inside(5, 11));
        Check.due("below", -1, sums.inside(5, -1));
        Check.due("at the grid's edge", -1, sums.inside(EDGE, -EDGE));
        long[] off = {EDGE + 1, -EDGE - 1, LEAST, MOST};
        for (long value : off) {
            Check.due("x off", -2, sums.inside(value, 5));
            Check.due("y off", -2, sums.inside(5, value));
        }
        GridSums kite = rowOf(0, -4, 4, 0, 0, 4, -4, 0);
        Check.due("height of two corners, within", 1, kite.inside(0, 0));
        Check.due("height of two corners, left", -1, kite.inside(-5, 0));
        Check.due("height of the upper corner", -1, kite.inside(-5, 4));
        Check.due("height of the lower corner", -1, kite.inside(-5, -4));
        GridSums tooth = rowOf(0, 0, 8, 0, 8, 8, 4, 4, 0, 8);
        Check.due("in the gap", -1, tooth.inside(4, 6));
        Check.due("in the left tooth", 1, tooth.inside(1, 6));
        Check.due("left of a corner within", 1, tooth.inside(2, 4));
        Check.due("on the corner within", 0, tooth.inside(4, 4));
        GridSums grid = rowOf(-EDGE, -EDGE, EDGE, -EDGE, EDGE, EDGE);
        Check.due("grid, just within", 1, grid.inside(EDGE - 1, EDGE - 2));
        Check.due("grid, on", 0, grid.inside(EDGE - 1, EDGE - 1));
        Check.due("grid, just without", -1, grid.inside(EDGE - 2, EDGE - 1));
    }

    private static void promise9InsideOfStarAndOfFlatRows() {
        GridSums star = rowOf(0, 10, 6, -8, -10, 3, 10, 3, -6, -8);
        Check.due("twice round is not within", -1, star.inside(0, 0));
        Check.due("once round is within", 1, star.inside(0, 8));
        GridSums twice = rowOf(0, 0, 8, 0, 8, 8, 0, 8, 0, 0, 8, 0, 8, 8, 0, 8);
        Check.due("a square twice round", -1, twice.inside(4, 4));
        Check.due("on a square twice round", 0, twice.inside(4, 8));
        GridSums flat = rowOf(0, 0, 4, 2, 8, 4);
        Check.due("on a flat row", 0, flat.inside(6, 3));
        Check.due("beside a flat row", -1, flat.inside(6, 2));
        Check.due("before a flat row", -1, flat.inside(-2, -1));
        GridSums point = rowOf(3, 3, 3, 3, 3, 3);
        Check.due("on the one place", 0, point.inside(3, 3));
        Check.due("beside the one place", -1, point.inside(3, 4));
        GridSums doubled = rowOf(0, 0, 0, 0, 8, 0, 8, 8, 8, 8, 0, 8);
        Check.due("corners told twice, within", 1, doubled.inside(1, 1));
        Check.due("corners told twice, without", -1, doubled.inside(-1, 0));
    }

    private static void promise10Over() {
        GridSums sums = new GridSums();
        dueOver(sums, 7, 2, 3, 4, 3, 4, 4, 3, 4);
        dueOver(sums, -7, 2, -4, -3, -3, -4, -4, -3, -4);
        dueOver(sums, 7, -2, -4, -3, -3, -4, -4, -3, -4);
        dueOver(sums, -5, -2, 2, 3, 2, 3, 3, 2, 2);
        dueOver(sums, 5, -2, -3, -2, -2, -3, -3, -2, -2);
        dueOver(sums, 8, 3, 2, 3, 2, 3, 3, 3, 3);
        dueOver(sums, -7, 3, -3, -2, -2, -3, -2, -2, -2);
        dueOver(sums, 6, -3, -2, -2, -2, -2, -2, -2, -2);
        dueOver(sums, 0, -3, 0, 0, 0, 0, 0, 0, 0);
        dueOver(sums, 1, LEAST, -1, 0, 0, -1, 0, 0, 0);
        dueOver(sums, 1L << 62, LEAST, -1, 0, 0, -1, -1, 0, 0);
        dueOver(sums, LEAST, -1, LEAST, LEAST, LEAST, LEAST, LEAST, LEAST, LEAST);
        dueOver(sums, LEAST, 2, NONE, NONE, NONE, NONE, NONE, NONE, NONE);
        dueOver(sums, MOST, MOST, 1, 1, 1, 1, 1, 1, 1);
        long half = 1L << 62;
        dueOver(sums, MOST, 2, half - 1, half, half - 1, half, half, half - 1, half);
        for (int rule = 0; rule < 7; rule++) {
            int r = rule;
            Check.dueThrow("over(1, 0, " + r + ")", Check.ARITHMETIC, () -> sums.over(1, 0, r));
            Check.dueThrow("over(0, 0, " + r + ")", Check.ARITHMETIC, () -> sums.over(0, 0, r));
        }
        int[] noRules = {-1, 7, 8, Integer.MIN_VALUE, Integer.MAX_VALUE};
        for (int rule : noRules) {
            Check.due("over(5, 2, " + rule + ")", NONE, sums.over(5, 2, rule));
            Check.due("over(5, 0, " + rule + ")", NONE, sums.over(5, 0, rule));
        }
    }

    private static void dueOver(GridSums sums, long a, long b, long... answers) {
        for (int rule = 0; rule < 7; rule++) {
            Check.due("over(" + a + ", " + b + ", " + rule + ")", answers[rule], sums.over(a, b, rule));
            Check.due("ratio(" + a + ", 1, " + b + ", " + rule + ")", answers[rule], sums.ratio(a, 1, b, rule));
        }
    }

    private static void promise11Product() {
        GridSums sums = new GridSums();
        dueProduct(sums, 0, 5, 0, 0);
        dueProduct(sums, LEAST, 0, 0, 0);
        dueProduct(sums, -3, 5, -1, 15);
        dueProduct(sums, -3, -5, 1, 15);
        dueProduct(sums, 1L << 16, 1L << 16, 1, 0, 1);
        dueProduct(sums, 65535, 65537, 1, 4294967295L);
        dueProduct(sums, 1L << 32, -(1L << 32), -1, 0, 0, 1);
        dueProduct(sums, 1L << 48, 1L << 48, 1, 0, 0, 0, 1);
        dueProduct(sums, LEAST, 1, -1, 0, 1L << 31);
        dueProduct(sums, LEAST, -1, 1, 0, 1L << 31);
        dueProduct(sums, LEAST, LEAST, 1, 0, 0, 0, 1L << 30);
        dueProduct(sums, MOST, MOST, 1, 1, 0, 4294967295L, 1073741823);
        dueProduct(sums, LEAST, MOST, -1, 0, 1L << 31, 4294967295L, 1073741823);
    }

    private static void dueProduct(GridSums sums, long a, long b, int sign, long... limbs) {
        String name = "product(" + a + ", " + b + ", ";
        Check.due(name + "-1)", sign, sums.product(a, b, -1));
        for (int i = 0; i < limbs.length; i++) {
            Check.due(name + i + ")", limbs[i], sums.product(a, b, i));
        }
        int[] none = {-2, limbs.length, limbs.length + 1, Integer.MIN_VALUE, Integer.MAX_VALUE};
        for (int limb : none) {
            Check.dueThrow(name + limb + ")", Check.INDEX, () -> sums.product(a, b, limb));
        }
    }

    private static void promise12Ratio() {
        GridSums sums = new GridSums();
        Check.due("ratio, tie away", 11, sums.ratio(7, 3, 2, 4));
        Check.due("ratio, tie toward", 10, sums.ratio(7, 3, 2, 5));
        Check.due("ratio, tie even", -10, sums.ratio(-7, 3, 2, 6));
        Check.due("ratio, tie even up", 8, sums.ratio(5, 15, 10, 6));
        Check.due("ratio, down", -8, sums.ratio(3, 5, -2, 0));
        Check.due("ratio, up", -7, sums.ratio(3, 5, -2, 1));
        for (int rule = 0; rule < 7; rule++) {
            Check.due("most", MOST, sums.ratio(MOST, MOST, MOST, rule));
            Check.due("least", LEAST, sums.ratio(LEAST, LEAST, LEAST, rule));
            Check.due("2^126", 0, sums.ratio(LEAST, LEAST, 1, rule));
            Check.due("- 2^126", 0, sums.ratio(LEAST, LEAST, -1, rule));
            Check.due("2^62 below 0 is one, too", NONE, sums.ratio(LEAST, 1, 2, rule));
            Check.due("0 by one", 0, sums.ratio(0, LEAST, -1, rule));
            int r = rule;
            Check.dueThrow("ratio(1, 1, 0, " + r + ")", Check.ARITHMETIC, () -> sums.ratio(1, 1, 0, r));
            Check.dueThrow("ratio(0, 0, 0, " + r + ")", Check.ARITHMETIC, () -> sums.ratio(0, 0, 0, r));
        }
        Check.due("bits beyond 64 are lost", -3074457345618258604L, sums.ratio(MOST, 5, 3, 1));
        Check.due("bits beyond 64 are lost, away", -9223372036854775807L, sums.ratio(MOST, MOST, 2, 3));
        int[] noRules = {-1, 7, Integer.MIN_VALUE, Integer.MAX_VALUE};
        for (int rule : noRules) {
            Check.due("ratio, no rule " + rule, NONE, sums.ratio(5, 5, 2, rule));
            Check.due("ratio by 0, no rule " + rule, NONE, sums.ratio(5, 5, 0, rule));
        }
    }

    private static void promise13Share() {
        GridSums sums = new GridSums();
        dueShares(sums, 10, 4, 3, 3);
        dueShares(sums, 11, 4, 4, 3);
        dueShares(sums, 12, 4, 4, 4);
        dueShares(sums, -10, -3, -3, -4);
        dueShares(sums, -1, 0, 0, -1);
        dueShares(sums, 0, 0, 0, 0);
        dueShares(sums, 2, 1, 1, 0, 0);
        dueShares(sums, MOST, MOST);
        dueShares(sums, LEAST, LEAST);
        dueShares(sums, MOST, 1L << 62, (1L << 62) - 1);
        dueShares(sums, LEAST, NONE, NONE);
        Check.due("a million shares, last", 0, sums.share(999999, 999999, 1000000));
        Check.due("a million shares, last but one", 1, sums.share(999999, 999998, 1000000));
        Check.dueThrow("a million shares, beyond", Check.INDEX, () -> sums.share(1, 1000000, 1000000));
        int[] noNumbers = {0, -1, 1000001, Integer.MIN_VALUE, Integer.MAX_VALUE};
        for (int n : noNumbers) {
            Check.due("share of " + n, NONE, sums.share(10, 0, n));
            Check.due("share of " + n + ", no k", NONE, sums.share(10, -1, n));
            Check.due("share of " + n + ", far k", NONE, sums.share(10, Integer.MAX_VALUE, n));
        }
    }

    private static void dueShares(GridSums sums, long all, long... shares) {
        int n = shares.length;
        for (int k = 0; k < n; k++) {
            Check.due("share(" + all + ", " + k + ", " + n + ")", shares[k], sums.share(all, k, n));
        }
        int[] none = {-1, n, n + 1, Integer.MIN_VALUE, Integer.MAX_VALUE};
        for (int k : none) {
            Check.dueThrow("share(" + all + ", " + k + ", " + n + ")", Check.INDEX, () -> sums.share(all, k, n));
        }
    }

    private static void promise14Digit() {
        dueDigits(0, 10, 0);
        dueDigits(0, 2, 0);
        dueDigits(7, 10, 7);
        dueDigits(-7, 10, 7);
        dueDigits(1050, 10, 0, 5, 0, 1);
        dueDigits(-1050, 10, 0, 5, 0, 1);
        dueDigits(5, 2, 1, 0, 1);
        dueDigits(35, 36, 35);
        dueDigits(36, 36, 0, 1);
        dueDigits(MOST, 10, 7, 0, 8, 5, 7, 7, 4, 5, 8, 6, 3, 0, 2, 7, 3, 3, 2, 2, 9);
        dueDigits(LEAST, 10, 8, 0, 8, 5, 7, 7, 4, 5, 8, 6, 3, 0, 2, 7, 3, 3, 2, 2, 9);
        dueDigits(LEAST, 16, 0, 0, 0, 0, 0, 0, 0, 0, 0, 0, 0, 0, 0, 0, 0, 8);
        int[] least = new int[64];
        least[63] = 1;
        dueDigits(LEAST, 2, least);
        int[] most = new int[63];
        java.util.Arrays.fill(most, 1);
        dueDigits(MOST, 2, most);
        GridSums sums = new GridSums();
        int[] noBases = {1, 0, -1, -10, 37, Integer.MIN_VALUE, Integer.MAX_VALUE};
        for (int base : noBases) {
            Check.due("digit to " + base, -1, sums.digit(10, base, 0));
            Check.due("digit to " + base + ", no k", -1, sums.digit(10, base, -1));
            Check.due("digit to " + base + ", far k", -1, sums.digit(10, base, 999));
        }
    }

    private static void dueDigits(long a, int base, int... digits) {
        GridSums sums = new GridSums();
        for (int k = 0; k < digits.length; k++) {
            Check.due("digit(" + a + ", " + base + ", " + k + ")", digits[k], sums.digit(a, base, k));
        }
        int[] none = {-1, digits.length, digits.length + 1, 64, 65, Integer.MIN_VALUE, Integer.MAX_VALUE};
        for (int k : none) {
            Check.dueThrow("digit(" + a + ", " + base + ", " + k + ")", Check.INDEX, () -> sums.digit(a, base, k));
        }
    }

    private static void promise15Clear() {
        GridSums sums = rowOf(0, 0, 8, 0, 8, 8);
        for (int k = 0; k < 16; k++) {
            sums.line(k, 0, k, 9, 9);
        }
        sums.cross(0, 1);
        Check.due("a place is at hand", 1, sums.count(2));
        sums.clear();
        dueNothingIsThere("behind clear", sums);
        sums.clear();
        dueNothingIsThere("behind clear twice", sums);
        sums.line(3, 0, 0, 1, 1);
        Check.due("one line behind clear", 1, sums.count(0));
        Check.due("line 4 is gone", -1, sums.cross(3, 4));
        sums.corner(0, 0);
        sums.corner(0, 4);
        Check.due("corner 2 is gone", -2, sums.inside(0, 0));
        sums.corner(4, 0);
        Check.due("new corners count", 16, sums.area2(0));
        Check.due("new corners go round to the right", -1, sums.area2(-1));
    }

    private static void promise16Count() {
        GridSums sums = new GridSums();
        sums.line(5, 0, 0, 4, 4);
        sums.line(9, 0, 4, 4, 0);
        sums.line(9, 0, 2, 2, 0);
        sums.corner(1, 1);
        sums.corner(2, 2);
        sums.corner(2, 2);
        Check.due("lines", 2, sums.count(0));
        Check.due("corners", 3, sums.count(1));
        Check.due("nothing at hand", 0, sums.count(2));
        sums.cross(5, 9);
        Check.due("at hand", 1, sums.count(2));
        sums.product(1, 2, 0);
        sums.over(7, 3, 0);
        sums.area2(0);
        sums.inside(1, 1);
        Check.due("still at hand", 1, sums.count(2));
        Check.due("still x", 1, sums.at(0));
        int[] others = {-1, 3, 4, Integer.MIN_VALUE, Integer.MAX_VALUE};
        for (int what : others) {
            Check.due("count(" + what + ")", -1, sums.count(what));
        }
    }
}
