/**
 * The value function at its boundaries: breakpoints at low and at high and just beside them, ends of what has a
 * solution, pieces that are none, and fractions. All answers were worked out by hand.
 */
public final class CurveTests {
    private static final int INFEASIBLE = -10004;
    private static final int NONE = -10007;
    private static final long NO_VALUE = Long.MIN_VALUE;

    private CurveTests() {
    }

    public static void main(String[] args) {
        breakpointAtLowOrHigh();
        fractionBesideLowAndHigh();
        severalBetweenTwoIntegers();
        breakpointAtNought();
        breakpointsBelowNought();
        suppliesAtLowOrHigh();
        suppliesThatRunOut();
        suppliesThatTurn();
        endsOfTheRange();
        farthestInCosts();
        anotherTreeIsNoBreakpoint();
        severalTreesAtOneBreakpoint();
        noArcs();
        slopesAreSteepest();
        valueAtBreakpoints();
        fractionsOfValues();
        newAnswersAfterEachChange();
        withoutChangeOfTheSolution();
        Due.end("CurveTests");
    }

    /** All breakpoints (numerators and denominators, one behind the other) and slopes of an interval. */
    private static void curve(String what, ParametricFlow x, int low, int high, long[] points, long[] slopes) {
        String on = what + " from " + low + " to " + high;
        int count = points.length / 2;
        Due.is(on + ": breakpoints", x.breakpoints(low, high), count);
        for (int k = 0; k < count; k++) {
            Due.is(on + ": breakpoint " + k, x.breakpoint(low, high, k, false), points[2 * k]);
            Due.is(on + ": breakpoint " + k + ", denominator", x.breakpoint(low, high, k, true), points[2 * k + 1]);
        }
        Due.is(on + ": one slope more", slopes.length, count + 1);
        for (int k = 0; k <= count; k++) {
            Due.is(on + ": slope " + k, x.slope(low, high, k), slopes[k]);
        }
        for (int k : new int[] {-1, count}) {
            Due.is(on + ": no breakpoint " + k, x.breakpoint(low, high, k, false), NO_VALUE);
            Due.is(on + ": no breakpoint " + k + ", denominator", x.breakpoint(low, high, k, true), NO_VALUE);
        }
        Due.is(on + ": no slope -1", x.slope(low, high, -1), NO_VALUE);
        Due.is(on + ": no slope " + (count + 1), x.slope(low, high, count + 1), NO_VALUE);
    }

    private static long[] row(long... items) {
        return items;
    }

    /** One unit by the cheapest of several arcs: the value is the least of the lines cost + slope * x. */
    private static ParametricFlow lines(int[][] costsAndSlopes) {
        int[][] arcs = new int[costsAndSlopes.length][];
        for (int k = 0; k < arcs.length; k++) {
            arcs[k] = new int[] {1, costsAndSlopes[k][0], costsAndSlopes[k][1]};
        }
        return Nets.parallel(1, 0, arcs);
    }

    /** "A breakpoint is a parameter strictly between low and high at which its slope changes." */
    private static void breakpointAtLowOrHigh() {
        ParametricFlow x = lines(new int[][] {{2, 2}, {0, 0}, {2, -2}});
        curve("-1 and 1", x, -2, 2, row(-1, 1, 1, 1), row(2, 0, -2));
        curve("-1 and 1", x, -1, 2, row(1, 1), row(0, -2));
        curve("-1 and 1", x, -2, 1, row(-1, 1), row(2, 0));
        curve("-1 and 1", x, -1, 1, row(), row(0));
        curve("-1 and 1", x, -2, -1, row(), row(2));
        curve("-1 and 1", x, 1, 2, row(), row(-2));
        curve("-1 and 1", x, -1, 0, row(), row(0));
        curve("-1 and 1", x, 0, 1, row(), row(0));
        curve("-1 and 1", x, 0, 2, row(1, 1), row(0, -2));
        curve("-1 and 1", x, -2, 0, row(-1, 1), row(2, 0));
        curve("-1 and 1", x, -1000, 1000, row(-1, 1, 1, 1), row(2, 0, -2));
        curve("-1 and 1", x, -1000, -1, row(), row(2));
        curve("-1 and 1", x, 1, 1000, row(), row(-2));
    }

    private static void fractionBesideLowAndHigh() {
        ParametricFlow x = Nets.two();
        curve("2/3", x, 0, 1, row(2, 3), row(6, -6));
        curve("2/3", x, 0, 2, row(2, 3), row(6, -6));
        curve("2/3", x, -1, 1, row(2, 3), row(6, -6));
        curve("2/3", x, -1, 0, row(), row(6));
        curve("2/3", x, 1, 2, row(), row(-6));
        curve("2/3", x, -1000, 1, row(2, 3), row(6, -6));
        curve("2/3", x, 0, 1000, row(2, 3), row(6, -6));
    }

    private static void severalBetweenTwoIntegers() {
        ParametricFlow x = lines(new int[][] {{0, 9}, {2, 3}, {4, -1}, {10, -10}});
        curve("1/3, 1/2 and 2/3", x, 0, 1, row(1, 3, 1, 2, 2, 3), row(9, 3, -1, -10));
        curve("1/3, 1/2 and 2/3", x, -1000, 1000, row(1, 3, 1, 2, 2, 3), row(9, 3, -1, -10));
        curve("1/3, 1/2 and 2/3", x, -1, 0, row(), row(9));
        curve("1/3, 1/2 and 2/3", x, 1, 2, row(), row(-10));
        x = lines(new int[][] {{0, 20}, {1, -19}});
        curve("1/39", x, 0, 1, row(1, 39), row(20, -19));
        x = lines(new int[][] {{0, 20}, {39, -20}});
        curve("39/40", x, 0, 1, row(39, 40), row(20, -20));
    }

    private static void breakpointAtNought() {
        ParametricFlow x = lines(new int[][] {{0, 2}, {0, 0}});
        curve("0", x, -5, 5, row(0, 1), row(2, 0));
        curve("0", x, -1, 1, row(0, 1), row(2, 0));
        curve("0", x, 0, 1, row(), row(0));
        curve("0", x, -1, 0, row(), row(2));
        x = lines(new int[][] {{7, -20}, {7, 20}});
        curve("0, of lines with a cost", x, -1000, 1000, row(0, 1), row(20, -20));
    }

    private static void breakpointsBelowNought() {
        curve("-1/2", lines(new int[][] {{1, 2}, {0, 0}}), -5, 5, row(-1, 2), row(2, 0));
        curve("-1/2", lines(new int[][] {{1, 2}, {0, 0}}), -1, 0, row(-1, 2), row(2, 0));
        curve("-4/6", lines(new int[][] {{4, 6}, {0, 0}}), -1, 0, row(-2, 3), row(6, 0));
        curve("-3, as -6/2", lines(new int[][] {{6, 2}, {0, 0}}), -5, 5, row(-3, 1), row(2, 0));
        curve("-200", lines(new int[][] {{100, 1}, {-100, 0}}), -1000, 1000, row(-200, 1), row(1, 0));
        curve("200", lines(new int[][] {{100, 0}, {-100, 1}}), -1000, 1000, row(200, 1), row(1, 0));
    }

    // ---- mode 1

    private static void suppliesAtLowOrHigh() {
        ParametricFlow x = Nets.mode(Nets.two(), 1);
        curve("-2", x, -6, 8, row(-2, 1), row(3, 5));
        curve("-2", x, -2, 8, row(), row(5));
        curve("-2", x, -6, -2, row(), row(3));
        curve("-2", x, -3, -1, row(-2, 1), row(3, 5));
        curve("-2", x, -3, -2, row(), row(3));
        curve("-2", x, -2, -1, row(), row(5));
        curve("-2", x, -6, -5, row(), row(3));
        curve("-2", x, 7, 8, row(), row(5));
        x = Nets.mode(Nets.parallel(0, 2, new int[][] {{1, 1, 0}, {3, 2, 0}}), 1);
        curve("1/2", x, 0, 1, row(1, 2), row(2, 4));
        curve("1/2", x, 0, 2, row(1, 2), row(2, 4));
        curve("1/2", x, 1, 2, row(), row(4));
        Due.is("1/2: too much for 3", x.breakpoints(0, 3), INFEASIBLE);
        Due.is("1/2: too little for -1", x.breakpoints(-1, 2), INFEASIBLE);
    }

    /** "in mode 1 as far as there is a solution": with 6 - x the end where nothing flows is high. */
    private static void suppliesThatRunOut() {
        ParametricFlow x = Nets.mode(Nets.parallel(6, -1, new int[][] {{4, 3, 0}, {10, 5, 0}}), 1);
        curve("6 - x", x, -8, 6, row(2, 1), row(-5, -3));
        curve("6 - x", x, 2, 6, row(), row(-3));
        curve("6 - x", x, 5, 6, row(), row(-3));
        curve("6 - x", x, -8, -7, row(), row(-5));
        Due.is("6 - x: below", x.breakpoints(-9, 6), INFEASIBLE);
        Due.is("6 - x: above", x.breakpoints(-8, 7), INFEASIBLE);
    }

    /** x go from node 0 to node 1 or back: at 0 nothing flows, and the tree is made of artificial arcs. */
    private static void suppliesThatTurn() {
        ParametricFlow x = Nets.mode(Nets.empty(2), 1);
        x.addArc(0, 1, 5, 3, 0);
        x.addArc(1, 0, 7, 4, 0);
        x.setSupply(0, 0, 1);
        x.setSupply(1, 0, -1);
        curve("x", x, -7, 5, row(0, 1), row(-4, 3));
        curve("x", x, -1, 1, row(0, 1), row(-4, 3));
        curve("x", x, 0, 1, row(), row(3));
        curve("x", x, -1, 0, row(), row(-4));
        x.setArc(1, 1, -3);
        curve("x, as dear as the way back is cheap", x, -7, 5, row(), row(3));
        x.setArc(1, 1, -4);
        // Now as much as fits goes round: up to -2 arc 1 is full, behind it arc 0.
        curve("x, with a cheap way round", x, -7, 5, row(-2, 1), row(3, 4));
    }

    /** Breakpoints at the least and the greatest integers that low and high can be, and next to them. */
    private static void endsOfTheRange() {
        int[][] arcs = {{499, 1, 0}, {1000, 2, 0}};
        ParametricFlow x = Nets.mode(Nets.parallel(-500, 1, arcs), 1);
        curve("999", x, 500, 1000, row(999, 1), row(1, 2));
        curve("999", x, 998, 1000, row(999, 1), row(1, 2));
        curve("999", x, 999, 1000, row(), row(2));
        curve("999", x, 998, 999, row(), row(1));
        x.setArc(0, 0, 500);
        curve("1000", x, 999, 1000, row(), row(1));
        curve("1000", x, 500, 1000, row(), row(1));
        Due.is("1000: below 500 there is no way back", x.breakpoints(499, 1000), INFEASIBLE);
        x = Nets.mode(Nets.parallel(-500, -1, arcs), 1);
        curve("-999", x, -1000, -500, row(-999, 1), row(-2, -1));
        curve("-999", x, -1000, -998, row(-999, 1), row(-2, -1));
        curve("-999", x, -1000, -999, row(), row(-2));
        curve("-999", x, -999, -998, row(), row(-1));
        x.setArc(0, 0, 500);
        curve("-1000", x, -1000, -999, row(), row(-1));
        curve("-1000", x, -1000, -500, row(), row(-1));
        Due.is("-1000: above -500 there is no way back", x.breakpoints(-1000, -499), INFEASIBLE);
    }

    // ---- mode 0

    /** A way of seven arcs for 100 each and one of one arc for -100: they cost the same 800 away from 0. */
    private static void farthestInCosts() {
        ParametricFlow x = Nets.empty(8);
        for (int i = 0; i < 7; i++) {
            x.addArc(i, i + 1, 1, 100, 0);
        }
        x.addArc(0, 7, 1, -100, 1);
        x.setSupply(0, 1, 0);
        x.setSupply(7, -1, 0);
        curve("800", x, -1000, 1000, row(800, 1), row(1, 0));
        curve("800", x, 799, 801, row(800, 1), row(1, 0));
        curve("800", x, 800, 801, row(), row(0));
        curve("800", x, 799, 800, row(), row(1));
        x.setArc(7, 2, -1);
        curve("-800", x, -1000, 1000, row(-800, 1), row(0, -1));
        curve("-800", x, -801, -800, row(), row(0));
        curve("-800", x, -800, -799, row(), row(-1));
    }

    /** Where another tree is optimal, but with the same slope, nothing breaks. */
    private static void anotherTreeIsNoBreakpoint() {
        ParametricFlow x = Nets.parallel(2, 0, new int[][] {{1, 0, 1}, {1, 0, -1}});
        curve("both arcs are full", x, -5, 5, row(), row(0));
        Due.is("both arcs are full: arc 1 first", x.solve(1, 1), 2);
        Due.is("both arcs are full: arc 1 first", x.pivot(0, false), 1);
        Due.is("both arcs are full: arc 0 first", x.solve(-1, 1), 2);
        Due.is("both arcs are full: arc 0 first", x.pivot(0, false), 0);
        x = lines(new int[][] {{3, 2}, {3, 2}, {3, 2}});
        curve("equal arcs", x, -1000, 1000, row(), row(2));
        x = Nets.mode(Nets.parallel(0, 1, new int[][] {{2, 3, 0}, {2, 3, 0}}), 1);
        curve("equal arcs in mode 1", x, 0, 4, row(), row(3));
        curve("equal arcs in mode 1", x, 1, 3, row(), row(3));
    }

    private static void severalTreesAtOneBreakpoint() {
        ParametricFlow x = lines(new int[][] {{0, 2}, {0, 1}, {0, 0}, {0, -1}, {0, -2}});
        curve("five lines at 0", x, -3, 3, row(0, 1), row(2, -2));
        x = lines(new int[][] {{1, 2}, {2, 0}, {3, -2}});
        curve("three lines at 1/2", x, 0, 1, row(1, 2), row(2, -2));
        x = lines(new int[][] {{0, 4}, {5, 0}, {4, -4}});
        curve("a line above the others' meeting", x, -9, 9, row(1, 2), row(4, -4));
    }

    private static void noArcs() {
        for (int mode = 0; mode < 2; mode++) {
            for (int n = 2; n <= 8; n += 6) {
                ParametricFlow x = Nets.mode(Nets.empty(n), mode);
                curve("no arcs, mode " + mode, x, -1000, 1000, row(), row(0));
                curve("no arcs, mode " + mode, x, 0, 1, row(), row(0));
                Due.is("no arcs: value", x.value(-10000, 7, false), 0);
                Due.is("no arcs: value, denominator", x.value(-10000, 7, true), 1);
                Due.is("no arcs: problem", x.problem(10000, 1000), NONE);
            }
        }
        ParametricFlow x = Nets.mode(Nets.empty(2), 1);
        x.setSupply(0, 3, 1);
        x.setSupply(1, -3, -1);
        Due.is("no arcs: for -3 alone", x.problem(-3, 1), NONE);
        Due.is("no arcs: the value there", x.value(-3, 1, false), 0);
        Due.is("no arcs: not beside it", x.problem(-2999, 1000), INFEASIBLE);
        Due.is("no arcs: low alone", x.breakpoints(-3, -2), INFEASIBLE);
        Due.is("no arcs: high alone", x.breakpoints(-4, -3), INFEASIBLE);
    }

    private static void slopesAreSteepest() {
        ParametricFlow x = Nets.row(8);
        for (int a = 0; a < 7; a++) {
            x.setArc(a, 0, 500);
            x.setArc(a, 1, 100);
            x.setArc(a, 2, 20);
        }
        x.setSupply(0, 500, 0);
        x.setSupply(7, -500, 0);
        curve("500 on seven arcs", x, -1000, 1000, row(), row(70000));
        Due.is("500 on seven arcs: greatest value", x.value(10000, 1, false), 350000L + 700000000L);
        Due.is("500 on seven arcs: least value", x.value(-10000, 1, false), 350000L - 700000000L);
        Due.is("500 on seven arcs: solve", x.solve(10000, 1), 7);
        Due.is("500 on seven arcs: objective", x.objective(false), 700350000L);
        Due.is("500 on seven arcs: potential", x.potential(0), 1 + 8 * 200100);
        Due.is("500 on seven arcs: potential", x.potential(7), 1 + 200100);
    }

    // ---- values

    private static void valueAtBreakpoints() {
        ParametricFlow x = Nets.two();
        long[][] due = {{2, 3, 26, 1}, {666, 1000, 6499, 250}, {667, 1000, 12999, 500}, {200, 300, 26, 1}};
        values("by costs", x, due);
        x.setMode(1);
        values("by supplies", x, new long[][] {{-2, 1, 12, 1}, {-2001, 1000, 11997, 1000}, {-1999, 1000, 2401, 200},
            {-6, 1, 0, 1}, {8, 1, 62, 1}, {-5999, 1000, 3, 1000}, {7999, 1000, 12399, 200}});
        Due.is("by supplies: no value beyond", x.value(8001, 1000, false), NO_VALUE);
        Due.is("by supplies: no value below", x.value(-6001, 1000, true), NO_VALUE);
        Due.is("by supplies: nor a problem at 8", x.problem(8, 1), NONE);
        Due.is("by supplies: but beyond", x.problem(8001, 1000), INFEASIBLE);
        Due.is("by supplies: nor at -6", x.problem(-6, 1), NONE);
        Due.is("by supplies: but below", x.problem(-6001, 1000), INFEASIBLE);
    }

    private static void values(String what, ParametricFlow x, long[][] due) {
        for (long[] d : due) {
            String at = what + ": value for " + d[0] + " / " + d[1];
            Due.is(at, x.value((int) d[0], (int) d[1], false), d[2]);
            Due.is(at + ", denominator", x.value((int) d[0], (int) d[1], true), d[3]);
        }
    }

    /** "in lowest terms with a denominator above 0", of 0 and of numbers below 0 as well. */
    private static void fractionsOfValues() {
        values("fractions", Nets.two(), new long[][] {{-11, 3, 0, 1}, {5, 1, 0, 1}, {500, 100, 0, 1}, {-15, 4, -1, 2},
            {-400, 100, -2, 1}, {21, 4, -3, 2}, {0, 1000, 22, 1}, {-1, 7, 148, 7}, {500, 1000, 25, 1}});
        values("fractions of nothing", new ParametricFlow(), new long[][] {{0, 1, 0, 1}, {3, 1000, 0, 1},
            {-10000, 999, 0, 1}});
    }

    // ---- after changes

    private static void newAnswersAfterEachChange() {
        ParametricFlow x = lines(new int[][] {{0, 2}, {0, 0}});
        curve("change: at first", x, -4, 4, row(0, 1), row(2, 0));
        x.setArc(0, 1, 2);
        curve("change: cost", x, -4, 4, row(-1, 1), row(2, 0));
        x.setArc(0, 2, 1);
        curve("change: slope", x, -4, 4, row(-2, 1), row(1, 0));
        x.addArc(0, 1, 1, 3, -1);
        curve("change: addArc", x, -4, 4, row(-2, 1, 3, 1), row(1, 0, -1));
        x.removeArc();
        curve("change: removeArc", x, -4, 4, row(-2, 1), row(1, 0));
        x.setSupply(0, 2, 1);
        Due.is("change: unbalanced", x.breakpoints(-4, 4), -10003);
        x.setSupply(1, -2, -1);
        curve("change: setSupply", x, -4, 4, row(), row(1));
        x.setArc(0, 0, 2);
        curve("change: capacity", x, -4, 4, row(-2, 1), row(2, 1));
        x.setMode(1);
        Due.is("change: setMode", x.breakpoints(-4, 4), INFEASIBLE);
        curve("change: setMode", x, -2, 1, row(-1, 1), row(0, 2));
        x.reset(2);
        curve("change: reset", x, -2, 1, row(), row(0));
    }

    /** The questions of this group need no solution, make none, and do not take the one that there is. */
    private static void withoutChangeOfTheSolution() {
        ParametricFlow x = Nets.two();
        x.value(1, 1, false);
        x.problem(1, 1);
        x.breakpoints(0, 1);
        x.breakpoint(0, 1, 0, false);
        x.slope(0, 1, 0);
        Due.is("the value function makes no solution", x.network(5), 0);
        Seen solved = new Seen(Nets.solved(Nets.two(), 0, 1));
        x.solve(0, 1);
        x.value(10000, 1, true);
        x.problem(-10000, 1);
        x.breakpoints(-1000, 1000);
        x.breakpoint(-7, 7, 0, true);
        x.slope(-8, 8, 1);
        solved.isStill("the value function takes no solution", new Seen(x));
    }
}
