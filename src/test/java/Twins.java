import java.util.ArrayList;
import java.util.List;
import java.util.function.LongSupplier;
import java.util.function.ToLongFunction;

/**
 * Two objects made alike: one is asked a call that must change nothing, then both must show the
 * same. No object is used for more than the document's 512 calls.
 */
final class Twins {
    private static final long EDGE = Check.EDGE;

    private Twins() {
    }

    /** What an object may hold when it is asked. */
    enum State {
        /** Nothing. */
        NEW,
        /** One line, two corners, nothing at hand. */
        FEW,
        /** Lines 2, 3 and 9, three corners, the place (2/3, 1/3) at hand. */
        SOME,
        /** 16 lines, 64 corners, a place of three and four limbs at hand. */
        FULL;

        GridSums make() {
            GridSums sums = new GridSums();
            switch (this) {
                case FEW:
                    sums.line(15, -3, 4, 5, -6);
                    addCorners(sums, 2);
                    break;
                case SOME:
                    sums.line(2, 0, 0, 6, 3);
                    sums.line(3, 0, 1, 1, 0);
                    sums.line(9, -7, 2, 8, 1);
                    addCorners(sums, 3);
                    sums.cross(2, 3);
                    break;
                case FULL:
                    addLines(sums);
                    addCorners(sums, 64);
                    sums.cross(14, 15);
                    break;
                default:
                    break;
            }
            return sums;
        }
    }

    /** In every state the call answers (or throws) this, and changes nothing. */
    static void changesNothing(String call, String want, ToLongFunction<GridSums> ask) {
        for (State state : State.values()) {
            changesNothing(state, call, want, ask);
        }
    }

    static void changesNothing(String call, long want, ToLongFunction<GridSums> ask) {
        changesNothing(call, Long.toString(want), ask);
    }

    static void changesNothing(State state, String call, long want, ToLongFunction<GridSums> ask) {
        changesNothing(state, call, Long.toString(want), ask);
    }

    static void changesNothing(State state, String call, String want, ToLongFunction<GridSums> ask) {
        GridSums asked = state.make();
        Check.tell(state + ": " + call, want, Check.answerOf(() -> ask.applyAsLong(asked)));
        dueAlike(state + ": behind " + call + ": ", state.make(), asked);
    }

    static void throwsAndChangesNothing(String call, String exception, ToLongFunction<GridSums> ask) {
        changesNothing(call, "throws." + exception, ask);
    }

    static void throwsAndChangesNothing(State state, String call, String exception, ToLongFunction<GridSums> ask) {
        changesNothing(state, call, "throws." + exception, ask);
    }

    static void dueAlike(String when, GridSums due, GridSums got) {
        List<String> calls = new ArrayList<>();
        List<String> want = shown(due, calls);
        List<String> answers = shown(got, new ArrayList<>());
        for (int i = 0; i < want.size(); i++) {
            Check.tell(when + calls.get(i), want.get(i), answers.get(i));
        }
    }

    /** Chords that cross one another near the middle, and two across the grid. */
    private static void addLines(GridSums sums) {
        for (int k = 0; k < 14; k++) {
            sums.line(k, 17 * k - 1000, 101 * k - 900, 1000 - 13 * k, 900 - 97 * k);
        }
        sums.line(14, -EDGE, -EDGE, EDGE, EDGE - 1);
        sums.line(15, -EDGE, -5, 7, -EDGE);
    }

    /** Along a parabola, off 0, so that each corner counts in the area. */
    private static void addCorners(GridSums sums, int n) {
        for (int i = 0; i < n; i++) {
            sums.corner(i + 5, i * i - 7);
        }
    }

    private static List<String> shown(GridSums sums, List<String> calls) {
        List<String> answers = new ArrayList<>();
        for (int what = 0; what < 3; what++) {
            int w = what;
            show(answers, calls, "count(" + w + ")", () -> sums.count(w));
        }
        showPlace(sums, answers, calls);
        showCorners(sums, answers, calls);
        // Last, because a crossing changes what is at hand.
        for (int k = 0; k < 16; k++) {
            showCrossing(sums, k, (k + 1) % 16, answers, calls);
            showCrossing(sums, k, (k + 7) % 16, answers, calls);
            showCrossing(sums, k, k, answers, calls);
        }
        return answers;
    }

    private static void showPlace(GridSums sums, List<String> answers, List<String> calls) {
        for (int axis = 0; axis < 2; axis++) {
            int x = axis;
            show(answers, calls, "at(" + x + ")", () -> sums.at(x));
            for (int limb = -1; limb < 5; limb++) {
                int l = limb;
                show(answers, calls, "exact(" + x + ", 0, " + l + ")", () -> sums.exact(x, 0, l));
                show(answers, calls, "exact(" + x + ", 1, " + l + ")", () -> sums.exact(x, 1, l));
            }
        }
    }

    private static void showCorners(GridSums sums, List<String> answers, List<String> calls) {
        for (int limb = -1; limb < 2; limb++) {
            int l = limb;
            show(answers, calls, "area2(" + l + ")", () -> sums.area2(l));
        }
        long[][] places = {{5, -7}, {6, -6}, {6, -7}, {6, 55}, {6, 56}, {6, 57}, {7, -3}, {7, 0}, {0, 0}};
        for (long[] place : places) {
            show(answers, calls, "inside(" + place[0] + ", " + place[1] + ")", () -> sums.inside(place[0], place[1]));
        }
    }

    private static void showCrossing(GridSums sums, int a, int b, List<String> answers, List<String> calls) {
        String name = "cross(" + a + ", " + b + ")";
        show(answers, calls, name, () -> sums.cross(a, b));
        show(answers, calls, name + " at(0)", () -> sums.at(0));
        show(answers, calls, name + " at(1)", () -> sums.at(1));
        show(answers, calls, name + " exact(0, 0, 0)", () -> sums.exact(0, 0, 0));
        show(answers, calls, name + " exact(1, 0, 0)", () -> sums.exact(1, 0, 0));
        show(answers, calls, name + " exact(0, 1, 0)", () -> sums.exact(0, 1, 0));
    }

    private static void show(List<String> answers, List<String> calls, String call, LongSupplier answer) {
        calls.add(call);
        answers.add(Check.answerOf(answer));
    }
}
