/** Objects with what a test needs in them. */
final class Scenes {
    private static final long EDGE = Check.EDGE;

    private Scenes() {
    }

    /** Corners x, y, x, y, .. */
    static GridSums rowOf(long... places) {
        GridSums sums = new GridSums();
        for (int i = 0; i < places.length; i += 2) {
            Check.due("corner of a row", true, sums.corner(places[i], places[i + 1]));
        }
        return sums;
    }

    /** The same row of corners, told again and again. */
    static GridSums rowOfRounds(int rounds, long... places) {
        long[] all = new long[rounds * places.length];
        for (int i = 0; i < all.length; i++) {
            all[i] = places[i % places.length];
        }
        return rowOf(all);
    }

    /** Lines 0 and 1 cross; the place on the axis is sign * (whole + part / parts), 0 on the other. */
    static GridSums placeOnAxis(int axis, int sign, long whole, long part, long parts) {
        GridSums sums = new GridSums();
        addLine(sums, 0, axis, -EDGE, 0, EDGE, 0);
        addLine(sums, 1, axis, sign * whole, -part, sign * (whole + 1), parts - part);
        Check.due("lines of a place on axis " + axis, GridSums.CROSSES, sums.cross(0, 1));
        return sums;
    }

    private static void addLine(GridSums sums, int k, int axis, long u0, long v0, long u1, long v1) {
        boolean told = axis == 0 ? sums.line(k, u0, v0, u1, v1) : sums.line(k, v0, u0, v1, u1);
        Check.due("line " + k + " of a place on axis " + axis, true, told);
    }

    /** Line 0 is the first one, line 1 the second one; 14 and 15 are the same, told backward. */
    static GridSums linesBothWays(long[] first, long[] second) {
        GridSums sums = new GridSums();
        Check.due("line 0", true, sums.line(0, first[0], first[1], first[2], first[3]));
        Check.due("line 1", true, sums.line(1, second[0], second[1], second[2], second[3]));
        Check.due("line 14", true, sums.line(14, first[2], first[3], first[0], first[1]));
        Check.due("line 15", true, sums.line(15, second[2], second[3], second[0], second[1]));
        return sums;
    }

    /** The two lines of linesBothWays in each order and each direction. */
    static int[][] pairsBothWays() {
        return new int[][] {{0, 1}, {1, 0}, {14, 1}, {1, 14}, {0, 15}, {15, 0}, {14, 15}, {15, 14}};
    }

    static void dueCrossBothWays(String what, int want, long[] first, long[] second) {
        GridSums sums = linesBothWays(first, second);
        for (int[] pair : pairsBothWays()) {
            String call = what + ": cross(" + pair[0] + ", " + pair[1] + ")";
            Check.due(call, want, sums.cross(pair[0], pair[1]));
            Check.due(call + ", then count(2)", want == GridSums.CROSSES ? 1 : 0, sums.count(2));
            Check.due(call + ", then at(0) is one", want == GridSums.CROSSES, sums.at(0) != Check.NONE);
        }
    }

    static void dueWholePlace(String what, GridSums sums, long x, long y) {
        dueWhole(what, sums, 0, x);
        dueWhole(what, sums, 1, y);
    }

    /** For amounts of at most two limbs. */
    private static void dueWhole(String what, GridSums sums, int axis, long value) {
        long amount = Math.abs(value);
        long low = amount & 0xFFFFFFFFL;
        long[] limbs = amount >>> 32 == 0 ? new long[] {low} : new long[] {low, amount >>> 32};
        Check.due(what + ": at(" + axis + ")", value, sums.at(axis));
        Check.dueLimbs(what + ": upper of axis " + axis, l -> sums.exact(axis, 0, l), Long.signum(value), limbs);
        Check.dueLimbs(what + ": lower of axis " + axis, l -> sums.exact(axis, 1, l), 1, 1);
    }

    static long[] line(long x0, long y0, long x1, long y1) {
        return new long[] {x0, y0, x1, y1};
    }
}
