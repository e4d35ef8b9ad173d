import java.util.ArrayList;
import java.util.List;

/**
 * What can be seen of an object: answers of all the calls that ask, of the first and last arcs and a few parameters.
 * Some 200 calls, so that an object can be looked at twice within its 512.
 */
final class Seen {
    private static final int[][] PARAMETERS = {{-5, 1}, {0, 1}, {1, 2}, {7, 3}};
    private static final int[][] INTERVALS = {{-5, 5}, {-2, 0}};

    private final List<String> calls = new ArrayList<>();
    private final List<Long> answers = new ArrayList<>();

    Seen(ParametricFlow x) {
        for (int what = 0; what <= 5; what++) {
            keep("network(" + what + ")", x.network(what));
        }
        int arcs = x.network(1);
        for (int a = 0; a < arcs; a++) {
            if (a < 3 || a > arcs - 4) {
                keepArc(x, a);
            }
        }
        for (int i = 0; i < x.network(0); i++) {
            keep("potential(" + i + ")", x.potential(i));
            for (int what = 0; what <= 3; what++) {
                keep("tree(" + i + ", " + what + ")", x.tree(i, what));
            }
            keep("preorder(" + (i + 1) + ")", x.preorder(i + 1));
        }
        for (int k = 0; k < 6; k++) {
            keep("pivot(" + k + ", false)", x.pivot(k, false));
            keep("pivot(" + k + ", true)", x.pivot(k, true));
        }
        for (boolean den : new boolean[] {false, true}) {
            keep("objective(" + den + ")", x.objective(den));
            keep("limit(false, " + den + ")", x.limit(false, den));
            keep("limit(true, " + den + ")", x.limit(true, den));
        }
        keepFunction(x);
        keep("network(5) behind all others", x.network(5));
    }

    private void keepArc(ParametricFlow x, int a) {
        for (int what = 0; what <= 4; what++) {
            keep("arc(" + a + ", " + what + ")", x.arc(a, what));
        }
        keep("flow(" + a + ", false)", x.flow(a, false));
        keep("flow(" + a + ", true)", x.flow(a, true));
        keep("reducedCost(" + a + ")", x.reducedCost(a));
        keep("bound(" + a + ")", x.bound(a));
    }

    private void keepFunction(ParametricFlow x) {
        for (int[] at : PARAMETERS) {
            keep("value(" + at[0] + ", " + at[1] + ", false)", x.value(at[0], at[1], false));
            keep("value(" + at[0] + ", " + at[1] + ", true)", x.value(at[0], at[1], true));
            keep("problem(" + at[0] + ", " + at[1] + ")", x.problem(at[0], at[1]));
        }
        for (int[] on : INTERVALS) {
            String interval = on[0] + ", " + on[1];
            keep("breakpoints(" + interval + ")", x.breakpoints(on[0], on[1]));
            keep("breakpoint(" + interval + ", 0, false)", x.breakpoint(on[0], on[1], 0, false));
            keep("breakpoint(" + interval + ", 0, true)", x.breakpoint(on[0], on[1], 0, true));
            keep("slope(" + interval + ", 0)", x.slope(on[0], on[1], 0));
        }
    }

    private void keep(String call, long answer) {
        calls.add(call);
        answers.add(answer);
    }

    /** Every answer is the same at another time. */
    void isStill(String what, Seen later) {
        Due.is(what + ": as many questions", later.calls.size(), calls.size());
        for (int k = 0; k < Math.min(calls.size(), later.calls.size()); k++) {
            Due.is(what + ": then " + later.calls.get(k), later.answers.get(k), answers.get(k));
        }
    }
}
