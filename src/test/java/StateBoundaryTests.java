/** The boundary cases of promises 1, 15 and 16, each sentence by a test of its own. */
public final class StateBoundaryTests {
    private static final long EDGE = Check.EDGE;
    private static final long NONE = Check.NONE;

    private StateBoundaryTests() {
    }

    public static void main(String[] args) {
        Check.holds("Promise 1", "No lines", StateBoundaryTests::newObjectHasNoLines);
        Check.holds("Promise 1", "no corners", StateBoundaryTests::newObjectHasNoCorners);
        Check.holds("Promise 1", "nothing at hand", StateBoundaryTests::newObjectHasNothingAtHand);
        Check.holds("Promise 1", "A new object", StateBoundaryTests::newObjectBesideAFullOne);
        Check.holds("Promise 15", "No lines", StateBoundaryTests::clearLeavesNoLines);
        Check.holds("Promise 15", "no corners", StateBoundaryTests::clearLeavesNoCorners);
        Check.holds("Promise 15", "nothing at hand", StateBoundaryTests::clearLeavesNothingAtHand);
        Check.holds("Promise 15", "No lines, no corners, nothing at hand.", StateBoundaryTests::clearOfEachState);
        Check.holds("Promise 15", "No lines, no corners, nothing at hand.", StateBoundaryTests::fullAgainBehindClear);
        Check.holds("Promise 16", "0 lines that are told", StateBoundaryTests::countOfLines);
        Check.holds("Promise 16", "0 lines that are told", StateBoundaryTests::countOfRefusedLines);
        Check.holds("Promise 16", "1 corners", StateBoundaryTests::countOfCorners);
        Check.holds("Promise 16", "2 whether a place is at hand (1 or 0)", StateBoundaryTests::countOfPlaces);
        Check.holds("Promise 16", "BAD: another number.", StateBoundaryTests::countOfAnotherNumber);
        Check.holds("What it is", "An object is used for at most 512 calls", StateBoundaryTests::the512thCall);
        Check.end();
    }

    private static void newObjectHasNoLines() {
        dueNoLines("a new object", new GridSums());
    }

    private static void newObjectHasNoCorners() {
        dueNoCorners("a new object", new GridSums());
    }

    private static void newObjectHasNothingAtHand() {
        dueNothingAtHand("a new object", new GridSums());
    }

    /** What one object holds is not the other one's. */
    private static void newObjectBesideAFullOne() {
        GridSums before = new GridSums();
        GridSums full = Twins.State.FULL.make();
        GridSums behind = new GridSums();
        Check.due("lines of the full one", 16, full.count(0));
        Twins.dueAlike("made before: ", behind, before);
        dueNoLines("made behind", behind);
        dueNoCorners("made behind", behind);
        dueNothingAtHand("made behind", behind);
        Twins.dueAlike("the full one: ", Twins.State.FULL.make(), full);
    }

    private static void clearLeavesNoLines() {
        GridSums sums = Twins.State.FULL.make();
        Check.due("lines before", 16, sums.count(0));
        sums.clear();
        dueNoLines("behind clear", sums);
    }

    private static void clearLeavesNoCorners() {
        GridSums sums = Twins.State.FULL.make();
        Check.due("corners before", 64, sums.count(1));
        sums.clear();
        dueNoCorners("behind clear", sums);
    }

    private static void clearLeavesNothingAtHand() {
        GridSums sums = Twins.State.FULL.make();
        Check.due("a place before", 1, sums.count(2));
        sums.clear();
        dueNothingAtHand("behind clear", sums);
    }

    private static void clearOfEachState() {
        for (Twins.State state : Twins.State.values()) {
            GridSums once = state.make();
            once.clear();
            Twins.dueAlike(state + ", cleared: ", new GridSums(), once);
            GridSums twice = state.make();
            twice.clear();
            twice.clear();
            Twins.dueAlike(state + ", cleared twice: ", new GridSums(), twice);
        }
    }

    /** What was there before shows in nothing that is told anew. */
    private static void fullAgainBehindClear() {
        GridSums sums = Twins.State.FULL.make();
        sums.clear();
        for (int k = 0; k < 16; k++) {
            Check.due("line " + k + " again", true, sums.line(k, k, -1, k, 1));
            Check.due("lines again", k + 1, sums.count(0));
            Check.due("the next line is not told", k < 15 ? GridSums.BAD : GridSums.APART, sums.cross(k, (k + 1) % 16));
        }
        for (int i = 0; i < 64; i++) {
            Check.due("corner " + i + " again", true, sums.corner(i < 32 ? i : 63 - i, i < 32 ? 0 : 2));
            Check.due("corners again", i + 1, sums.count(1));
        }
        Check.due("corner 65", false, sums.corner(0, 0));
        Check.due("the new area", 124, sums.area2(0));
        Check.due("within the new corners", 1, sums.inside(7, 1));
    }

    private static void dueNoLines(String when, GridSums sums) {
        Check.due(when + ": count(0)", 0, sums.count(0));
        for (int a = 0; a < 16; a++) {
            for (int b = 0; b < 16; b += 5) {
                Check.due(when + ": cross(" + a + ", " + b + ")", GridSums.BAD, sums.cross(a, b));
            }
            Check.due(when + ": cross(" + a + ", " + a + ")", GridSums.BAD, sums.cross(a, a));
        }
    }

    private static void dueNoCorners(String when, GridSums sums) {
        Check.due(when + ": count(1)", 0, sums.count(1));
        Check.dueLimbs(when + ": area2", sums::area2, 0, 0);
        Check.due(when + ": inside(6, 0)", GridSums.REFUSED, sums.inside(6, 0));
        sums.corner(EDGE, 3);
        sums.corner(-EDGE, 4);
        Check.due(when + ": two are told", 2, sums.count(1));
        Check.dueLimbs(when + ": area2 of two", sums::area2, 0, 0);
        Check.due(when + ": inside two", GridSums.REFUSED, sums.inside(6, 0));
    }

    private static void dueNothingAtHand(String when, GridSums sums) {
        Check.due(when + ": count(2)", 0, sums.count(2));
        for (int axis = 0; axis < 2; axis++) {
            Check.due(when + ": at(" + axis + ")", NONE, sums.at(axis));
            for (int limb = -2; limb < 5; limb++) {
                Check.due(when + ": exact(" + axis + ", 0, " + limb + ")", NONE, sums.exact(axis, 0, limb));
                Check.due(when + ": exact(" + axis + ", 1, " + limb + ")", NONE, sums.exact(axis, 1, limb));
            }
        }
    }

    private static void countOfLines() {
        GridSums sums = new GridSums();
        Check.due("none", 0, sums.count(0));
        int[] order = {15, 0, 7, 8, 1, 14, 2, 13, 3, 12, 4, 11, 5, 10, 6, 9};
        for (int i = 0; i < 16; i++) {
            sums.line(order[i], 0, 0, 1, 1);
            Check.due("lines behind line " + order[i], i + 1, sums.count(0));
            sums.line(order[i], 0, 0, 1, 2);
            Check.due("lines behind line " + order[i] + " told anew", i + 1, sums.count(0));
        }
        Check.due("corners", 0, sums.count(1));
        Check.due("places", 0, sums.count(2));
    }

    private static void countOfRefusedLines() {
        GridSums sums = new GridSums();
        sums.line(-1, 0, 0, 1, 1);
        sums.line(16, 0, 0, 1, 1);
        sums.line(3, 4, 4, 4, 4);
        sums.line(4, 0, 0, EDGE + 1, 0);
        Check.due("none of these is told", 0, sums.count(0));
        sums.line(3, 4, 4, 4, 5);
        sums.line(3, 4, 4, 4, 4);
        Check.due("one stays told", 1, sums.count(0));
    }

    private static void countOfCorners() {
        GridSums sums = new GridSums();
        Check.due("none", 0, sums.count(1));
        for (int i = 1; i <= 70; i++) {
            sums.corner(i, -i);
            Check.due("behind corner " + i, Math.min(i, 64), sums.count(1));
        }
        Check.due("lines", 0, sums.count(0));
        Check.due("places", 0, sums.count(2));
    }

    private static void countOfPlaces() {
        GridSums sums = new GridSums();
        Check.due("none", 0, sums.count(2));
        sums.line(0, 0, 0, 2, 2);
        sums.line(1, 0, 2, 2, 0);
        sums.line(2, 5, 0, 6, 0);
        Check.due("none before a crossing", 0, sums.count(2));
        sums.cross(0, 1);
        Check.due("one behind a crossing", 1, sums.count(2));
        sums.cross(1, 0);
        Check.due("one behind two crossings", 1, sums.count(2));
        sums.cross(0, 3);
        Check.due("one behind a refused crossing", 1, sums.count(2));
        sums.cross(0, 2);
        Check.due("none behind lines apart", 0, sums.count(2));
        sums.cross(0, 1);
        sums.cross(1, 1);
        Check.due("none behind lines along", 0, sums.count(2));
    }

    private static void countOfAnotherNumber() {
        int[] others = {-1, 3, Integer.MIN_VALUE, Integer.MAX_VALUE};
        for (int what : others) {
            Twins.changesNothing("count(" + what + ")", GridSums.BAD, sums -> sums.count(what));
        }
        Twins.changesNothing(Twins.State.FULL, "count(0)", 16, sums -> sums.count(0));
        Twins.changesNothing(Twins.State.FULL, "count(1)", 64, sums -> sums.count(1));
        Twins.changesNothing(Twins.State.FULL, "count(2)", 1, sums -> sums.count(2));
    }

    private static void the512thCall() {
        GridSums sums = new GridSums();
        sums.line(0, 0, 0, 6, 3);
        sums.line(1, 0, 1, 1, 0);
        for (int call = 3; call < 511; call++) {
            Check.due("call " + call, GridSums.CROSSES, sums.cross(0, 1));
        }
        Check.due("call 511", 2, sums.exact(0, 0, 0));
        Check.due("call 512", 1, sums.at(0));
    }
}
