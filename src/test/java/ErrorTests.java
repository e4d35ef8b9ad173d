/**
 * Errors: in which order they are checked, that a call that reports one changes nothing, and what takes the solution
 * away and what does not.
 */
public final class ErrorTests {
    private static final int UNKNOWN = -10001;
    private static final int BAD_VALUE = -10002;
    private static final int UNBALANCED = -10003;
    private static final int INFEASIBLE = -10004;
    private static final int NO_SOLUTION = -10005;
    private static final int FULL = -10006;
    private static final int NONE = -10007;
    private static final long NO_VALUE = Long.MIN_VALUE;
    private static final int LEAST = Integer.MIN_VALUE;
    private static final int GREATEST = Integer.MAX_VALUE;

    private interface Make {
        ParametricFlow anew();
    }

    private interface Call {
        long on(ParametricFlow x);
    }

    private ErrorTests() {
    }

    public static void main(String[] args) {
        orderInNetwork();
        orderInSolve();
        orderOfProblems();
        orderInIntervals();
        orderInSolution();
        noneOnlyWithoutError();
        noValueForEveryError();
        wrongChangesChangeNothing();
        wrongSolvesChangeNothing();
        fullChangesNothing();
        removeArcWithoutArcsChangesNothing();
        questionsChangeNothing();
        wrongCallsChangeNothingWithoutSolution();
        suppliesStay();
        changesTakeTheSolutionAway();
        nextSolveReplacesTheSolution();
        Due.end("ErrorTests");
    }

    // ---- "Where several errors can apply, the order of the @return line is the order of the checks."

    private static void orderInNetwork() {
        ParametricFlow full = Nets.crowd();
        Due.is("3: from unknown, all else wrong, full", full.addArc(8, 0, 0, 101, 21), UNKNOWN);
        Due.is("3: to unknown, all else wrong, full", full.addArc(0, 8, 0, 101, 21), UNKNOWN);
        Due.is("3: both unknown and the same, full", full.addArc(8, 8, 1, 0, 0), UNKNOWN);
        Due.is("3: both -1", full.addArc(-1, -1, 1, 0, 0), UNKNOWN);
        Due.is("3: unknown, full", full.addArc(0, 8, 1, 0, 0), UNKNOWN);
        Due.is("3: the same nodes, full", full.addArc(7, 7, 1, 0, 0), BAD_VALUE);
        Due.is("3: capacity 0, full", full.addArc(0, 1, 0, 0, 0), BAD_VALUE);
        Due.is("3: cost 101, full", full.addArc(0, 1, 1, 101, 0), BAD_VALUE);
        Due.is("3: slope -21, full", full.addArc(0, 1, 1, 0, -21), BAD_VALUE);
        Due.is("3: full alone", full.addArc(0, 1, 1, 0, 0), FULL);
        ParametricFlow x = Nets.two();
        Due.is("3: unknown, capacity 0", x.addArc(2, 1, 0, 0, 0), UNKNOWN);
        Due.is("3: unknown, cost 101", x.addArc(1, 2, 1, 101, 0), UNKNOWN);
        Due.is("3: unknown, slope 21", x.addArc(-1, 1, 1, 0, 21), UNKNOWN);
        Due.is("5: unknown, what 3", x.setArc(2, 3, 1), UNKNOWN);
        Due.is("5: unknown, value 0", x.setArc(-1, 0, 0), UNKNOWN);
        Due.is("5: unknown, both wrong", x.setArc(LEAST, GREATEST, LEAST), UNKNOWN);
        Due.is("6: unknown, supply 501", x.setSupply(2, 501, 0), UNKNOWN);
        Due.is("6: unknown, slope 21", x.setSupply(-1, 0, 21), UNKNOWN);
        Due.is("6: unknown, both wrong", x.setSupply(GREATEST, LEAST, GREATEST), UNKNOWN);
        Due.is("8: unknown, what 5", x.arc(2, 5), UNKNOWN);
        Due.is("8: unknown, what -1", x.arc(-1, -1), UNKNOWN);
    }

    /** A network whose supplies do not add up to 0, and in which what there is could not flow either. */
    private static ParametricFlow unbalanced() {
        ParametricFlow x = new ParametricFlow();
        x.setSupply(0, 5, 0);
        return x;
    }

    /** Mode 1: balanced for 0 alone, and not to be solved for it. */
    private static ParametricFlow balancedForZeroAlone() {
        ParametricFlow x = Nets.mode(new ParametricFlow(), 1);
        x.setSupply(0, 5, 1);
        x.setSupply(1, -5, 0);
        return x;
    }

    private static void orderInSolve() {
        Due.is("10: bad p, unbalanced", unbalanced().solve(10001, 1), BAD_VALUE);
        Due.is("10: bad q, unbalanced", unbalanced().solve(0, 0), BAD_VALUE);
        Due.is("10: unbalanced, infeasible", unbalanced().solve(0, 1), UNBALANCED);
        Due.is("10: bad p, infeasible", balancedForZeroAlone().solve(-10001, 1), BAD_VALUE);
        Due.is("10: bad q, infeasible", balancedForZeroAlone().solve(0, 1001), BAD_VALUE);
        Due.is("10: infeasible alone", balancedForZeroAlone().solve(0, 1), INFEASIBLE);
        Due.is("10: unbalanced for 1", balancedForZeroAlone().solve(1, 1), UNBALANCED);
        Due.is("10: unbalanced for 1 / 1000", balancedForZeroAlone().solve(1, 1000), UNBALANCED);
    }

    private static void orderOfProblems() {
        Due.is("21: bad p, unbalanced", unbalanced().problem(-10001, 1), BAD_VALUE);
        Due.is("21: bad q, unbalanced", unbalanced().problem(0, 0), BAD_VALUE);
        Due.is("21: unbalanced, infeasible", unbalanced().problem(0, 1), UNBALANCED);
        Due.is("21: bad q, infeasible", balancedForZeroAlone().problem(0, 0), BAD_VALUE);
        Due.is("21: infeasible alone", balancedForZeroAlone().problem(0, 1), INFEASIBLE);
        Due.is("21: unbalanced for -1 / 1000", balancedForZeroAlone().problem(-1, 1000), UNBALANCED);
    }

    private static void orderInIntervals() {
        Due.is("22: bad low, unbalanced", unbalanced().breakpoints(-1001, 0), BAD_VALUE);
        Due.is("22: bad high, unbalanced", unbalanced().breakpoints(0, 1001), BAD_VALUE);
        Due.is("22: low is high, unbalanced", unbalanced().breakpoints(3, 3), BAD_VALUE);
        Due.is("22: unbalanced, infeasible", unbalanced().breakpoints(0, 1), UNBALANCED);
        Due.is("22: low infeasible, high unbalanced", balancedForZeroAlone().breakpoints(0, 1), UNBALANCED);
        Due.is("22: low unbalanced, high infeasible", balancedForZeroAlone().breakpoints(-1, 0), UNBALANCED);
        Due.is("22: both unbalanced", balancedForZeroAlone().breakpoints(-1, 1), UNBALANCED);
        ParametricFlow x = Nets.mode(Nets.two(), 1);
        Due.is("22: low infeasible alone", x.breakpoints(-7, 8), INFEASIBLE);
        Due.is("22: high infeasible alone", x.breakpoints(-6, 9), INFEASIBLE);
        Due.is("22: both infeasible", x.breakpoints(-7, 9), INFEASIBLE);
        Due.is("22: both below", x.breakpoints(-9, -7), INFEASIBLE);
        Due.is("22: both above", x.breakpoints(9, 10), INFEASIBLE);
        Due.is("22: bad, infeasible", x.breakpoints(9, 9), BAD_VALUE);
        Due.is("22: neither", x.breakpoints(-6, 8), 1);
        x.setSupply(0, 6, 0);
        Due.is("22: low alone is balanced, and has a flow", x.breakpoints(0, 1), UNBALANCED);
        Due.is("22: high alone is balanced, and has a flow", x.breakpoints(-1, 0), UNBALANCED);
        for (int sum : new int[] {-1, 1}) {
            // Balanced for -sum alone, with nothing to flow there.
            ParametricFlow one = Nets.mode(new ParametricFlow(), 1);
            one.setSupply(0, sum, 1);
            for (int low = -3; low <= 3; low++) {
                Due.is("22: balanced for " + -sum + " alone, " + low, one.breakpoints(low, low + 1), UNBALANCED);
                Due.is("21: balanced for " + -sum + " alone, " + low, one.problem(low, 1),
                        low == -sum ? NONE : UNBALANCED);
            }
        }
        ParametricFlow none = unbalanced();
        none.setSupply(1, -5, 0);
        Due.is("22: infeasible in mode 0", none.breakpoints(0, 1), INFEASIBLE);
    }

    private static void orderInSolution() {
        ParametricFlow x = Nets.two();
        Due.is("11: no solution, k -1", x.pivot(-1, false), NO_SOLUTION);
        Due.is("11: no solution, k -1, leaving", x.pivot(-1, true), NO_SOLUTION);
        Due.is("16: unknown, no solution", x.bound(2), UNKNOWN);
        Due.is("16: unknown below, no solution", x.bound(-1), UNKNOWN);
        Due.is("16: no solution alone", x.bound(1), NO_SOLUTION);
        Due.is("17: unknown, no solution, what 4", x.tree(2, 4), UNKNOWN);
        Due.is("17: unknown, no solution", x.tree(-1, 0), UNKNOWN);
        Due.is("17: no solution, what 4", x.tree(1, 4), NO_SOLUTION);
        Due.is("17: no solution, what -1", x.tree(0, -1), NO_SOLUTION);
        Due.is("17: no solution alone", x.tree(0, 0), NO_SOLUTION);
        Due.is("18: no solution, k -1", x.preorder(-1), NO_SOLUTION);
        x.solve(0, 1);
        Due.is("17: unknown, what 4", x.tree(2, 4), UNKNOWN);
        Due.is("17: unknown, what -1", x.tree(-1, -1), UNKNOWN);
        Due.is("17: what 4 alone", x.tree(1, 4), BAD_VALUE);
        Due.is("11: k -1 alone", x.pivot(-1, false), BAD_VALUE);
        Due.is("18: k -1 alone", x.preorder(-1), BAD_VALUE);
    }

    // ---- "NONE is returned only if no error applies."

    private static void noneOnlyWithoutError() {
        ParametricFlow x = Nets.two();
        Due.is("11: no such pivot, no solution", x.pivot(GREATEST, false), NO_SOLUTION);
        Due.is("18: no such place, no solution", x.preorder(GREATEST), NO_SOLUTION);
        Due.is("21: an optimal value, but bad q", x.problem(0, 0), BAD_VALUE);
        Due.is("21: an optimal value, but bad p", x.problem(-10001, 1), BAD_VALUE);
        x.solve(0, 1);
        Due.is("11: no such pivot", x.pivot(2, false), NONE);
        Due.is("18: no such place", x.preorder(3), NONE);
        Due.is("21: an optimal value", x.problem(0, 1), NONE);
        Due.is("4: no arc", new ParametricFlow().removeArc(), NONE);
    }

    // ---- "Methods that return a long return NO_VALUE for every error, and also where there is no such thing."

    private static void noValueForEveryError() {
        for (boolean den : new boolean[] {false, true}) {
            String side = den ? ", denominator" : "";
            ParametricFlow x = Nets.mode(Nets.two(), 1);
            Due.is("12: no solution" + side, x.objective(den), NO_VALUE);
            Due.is("13: no solution" + side, x.flow(0, den), NO_VALUE);
            Due.is("13: no solution, no arc" + side, x.flow(2, den), NO_VALUE);
            Due.is("19: no solution, lower" + side, x.limit(false, den), NO_VALUE);
            Due.is("19: no solution, upper" + side, x.limit(true, den), NO_VALUE);
            Due.is("20: no flow" + side, x.value(9, 1, den), NO_VALUE);
            Due.is("20: p" + side, x.value(10001, 1, den), NO_VALUE);
            Due.is("20: q" + side, x.value(0, 0, den), NO_VALUE);
            Due.is("23: low is infeasible" + side, x.breakpoint(-7, 8, 0, den), NO_VALUE);
            Due.is("23: high is infeasible" + side, x.breakpoint(-6, 9, 0, den), NO_VALUE);
            Due.is("23: neither" + side, x.breakpoint(-6, 8, 0, den), den ? 1 : -2);
            x.setSupply(0, 6, 0);
            Due.is("20: unbalanced" + side, x.value(1, 1, den), NO_VALUE);
            Due.is("23: high is unbalanced" + side, x.breakpoint(0, 1, 0, den), NO_VALUE);
            Due.is("23: low is unbalanced" + side, x.breakpoint(-1, 0, 0, den), NO_VALUE);
            x.solve(0, 1);
            Due.is("13: no arc" + side, x.flow(2, den), NO_VALUE);
            ParametricFlow none = Nets.solved(new ParametricFlow(), 0, 1);
            Due.is("19: no lower end" + side, none.limit(false, den), NO_VALUE);
            Due.is("19: no upper end" + side, none.limit(true, den), NO_VALUE);
            Due.is("20: unbalanced in mode 0" + side, unbalanced().value(0, 1, den), NO_VALUE);
        }
        ParametricFlow x = Nets.mode(Nets.two(), 1);
        Due.is("14: no solution", x.reducedCost(0), NO_VALUE);
        Due.is("14: no solution, no arc", x.reducedCost(2), NO_VALUE);
        Due.is("15: no solution", x.potential(0), NO_VALUE);
        Due.is("15: no solution, no node", x.potential(2), NO_VALUE);
        Due.is("24: low is infeasible", x.slope(-7, 8, 0), NO_VALUE);
        Due.is("24: high is infeasible", x.slope(-6, 9, 0), NO_VALUE);
        Due.is("24: neither", x.slope(-6, 8, 0), 3);
        x.setSupply(0, 6, 0);
        Due.is("24: high is unbalanced", x.slope(0, 1, 0), NO_VALUE);
        Due.is("24: low is unbalanced", x.slope(-1, 0, 0), NO_VALUE);
    }

    // ---- "A call that reports an error changes nothing."

    private static void refused(String what, Make make, Call call, long due) {
        ParametricFlow x = make.anew();
        Seen before = new Seen(x);
        Due.is(what, call.on(x), due);
        before.isStill(what, new Seen(x));
    }

    private static ParametricFlow solvedFour() {
        return Nets.solved(Nets.four(), 1, 2);
    }

    /** Mode 1: 10 + x go from node 0 to node 3, and from node 0 at most 17, so there is a flow from -10 to 7. */
    private static ParametricFlow solvedFourInModeOne() {
        return Nets.solved(Nets.mode(Nets.four(), 1), 3, 2);
    }

    /** Mode 1, solved for 0, for which alone the supplies add up to 0. */
    private static ParametricFlow solvedForZeroAlone() {
        ParametricFlow x = Nets.mode(Nets.four(), 1);
        x.setSupply(3, -10, 0);
        return Nets.solved(x, 0, 1);
    }

    private static void wrongChangesChangeNothing() {
        Make[] makes = {ErrorTests::solvedFour, ErrorTests::solvedFourInModeOne};
        for (Make m : makes) {
            for (int n : new int[] {1, 9, 0, -1, LEAST, GREATEST}) {
                refused("2: reset(" + n + ")", m, x -> x.reset(n), BAD_VALUE);
            }
            refused("3: no such from", m, x -> x.addArc(4, 1, 1, 0, 0), UNKNOWN);
            refused("3: no such to", m, x -> x.addArc(0, -1, 1, 0, 0), UNKNOWN);
            refused("3: the same nodes", m, x -> x.addArc(3, 3, 1, 0, 0), BAD_VALUE);
            refused("3: capacity", m, x -> x.addArc(0, 1, 1001, 0, 0), BAD_VALUE);
            refused("3: cost", m, x -> x.addArc(0, 1, 1, -101, 0), BAD_VALUE);
            refused("3: slope", m, x -> x.addArc(0, 1, 1, 0, 21), BAD_VALUE);
            refused("5: no such arc", m, x -> x.setArc(6, 0, 1), UNKNOWN);
            refused("5: no such property", m, x -> x.setArc(0, 3, 1), BAD_VALUE);
            refused("5: capacity", m, x -> x.setArc(0, 0, 0), BAD_VALUE);
            refused("5: cost", m, x -> x.setArc(0, 1, 101), BAD_VALUE);
            refused("5: slope", m, x -> x.setArc(0, 2, -21), BAD_VALUE);
            refused("6: no such node", m, x -> x.setSupply(4, 1, 1), UNKNOWN);
            refused("6: supply, with a new slope", m, x -> x.setSupply(0, 501, 5), BAD_VALUE);
            refused("6: slope, with a new supply", m, x -> x.setSupply(0, 5, 21), BAD_VALUE);
            refused("7: mode 2", m, x -> x.setMode(2), BAD_VALUE);
            refused("7: mode -1", m, x -> x.setMode(-1), BAD_VALUE);
        }
    }

    private static void wrongSolvesChangeNothing() {
        refused("10: p", ErrorTests::solvedFour, x -> x.solve(10001, 1), BAD_VALUE);
        refused("10: q", ErrorTests::solvedFour, x -> x.solve(0, 0), BAD_VALUE);
        refused("10: no flow above", ErrorTests::solvedFourInModeOne, x -> x.solve(8, 1), INFEASIBLE);
        refused("10: no flow below", ErrorTests::solvedFourInModeOne, x -> x.solve(-11, 1), INFEASIBLE);
        refused("10: unbalanced", ErrorTests::solvedForZeroAlone, x -> x.solve(1, 1), UNBALANCED);
        refused("10: q in mode 1", ErrorTests::solvedFourInModeOne, x -> x.solve(3, 1001), BAD_VALUE);
    }

    private static void fullChangesNothing() {
        Make full = () -> Nets.solved(Nets.crowd(), 0, 1);
        refused("3: full", full, x -> x.addArc(0, 1, 7, 7, 7), FULL);
        refused("3: full, no such node", full, x -> x.addArc(0, 8, 7, 7, 7), UNKNOWN);
        refused("3: full, bad", full, x -> x.addArc(0, 1, 7, 7, 77), BAD_VALUE);
    }

    private static void removeArcWithoutArcsChangesNothing() {
        Make none = () -> Nets.solved(Nets.mode(Nets.empty(3), 1), 5, 7);
        refused("4: no arcs", none, ParametricFlow::removeArc, NONE);
        ParametricFlow x = none.anew();
        x.removeArc();
        Due.is("4: the solution is still there", x.network(5), 1);
        Due.is("4: with its objective", x.objective(false), 0);
        Due.is("4: and its denominator", x.objective(true), 1);
        Due.is("4: and its tree", x.tree(2, 1), 102);
        ParametricFlow one = Nets.solved(Nets.row(2), 0, 1);
        one.setSupply(0, 0, 0);
        one.setSupply(1, 0, 0);
        one.solve(0, 1);
        Due.is("4: the last arc", one.removeArc(), 0);
        Due.is("4: that was a change", one.network(5), 0);
        one.solve(0, 1);
        Due.is("4: without arcs", one.removeArc(), NONE);
        Due.is("4: that was none", one.network(5), 1);
    }

    private static void questionsChangeNothing() {
        Make[] makes = {ErrorTests::solvedFour, ErrorTests::solvedFourInModeOne, Nets::four};
        for (Make m : makes) {
            int none = m == makes[2] ? NO_SOLUTION : NONE;
            int bad = m == makes[2] ? NO_SOLUTION : BAD_VALUE;
            refused("8: no such arc", m, x -> x.arc(6, 0), UNKNOWN);
            refused("8: no such property", m, x -> x.arc(0, 5), BAD_VALUE);
            refused("9: no such number", m, x -> x.network(6), BAD_VALUE);
            refused("11: no such pivot", m, x -> x.pivot(9, true), none);
            refused("11: k -1", m, x -> x.pivot(-1, true), bad);
            refused("13: no such arc", m, x -> x.flow(6, true), NO_VALUE);
            refused("14: no such arc", m, x -> x.reducedCost(-1), NO_VALUE);
            refused("15: no such node", m, x -> x.potential(4), NO_VALUE);
            refused("16: no such arc", m, x -> x.bound(6), UNKNOWN);
            refused("17: no such node", m, x -> x.tree(4, 0), UNKNOWN);
            refused("17: no such property", m, x -> x.tree(0, 4), bad);
            refused("18: no such place", m, x -> x.preorder(5), none);
            refused("18: k -1", m, x -> x.preorder(-1), bad);
            refused("20: q", m, x -> x.value(0, 0, false), NO_VALUE);
            refused("21: q", m, x -> x.problem(0, 0), BAD_VALUE);
            refused("21: none", m, x -> x.problem(0, 1), NONE);
            refused("22: low", m, x -> x.breakpoints(-1001, 0), BAD_VALUE);
            refused("23: k", m, x -> x.breakpoint(-5, 5, 99, false), NO_VALUE);
            refused("24: k", m, x -> x.slope(-5, 5, -1), NO_VALUE);
        }
        Make m = makes[1];
        refused("20: no flow", m, x -> x.value(8, 1, false), NO_VALUE);
        refused("21: no flow", m, x -> x.problem(8, 1), INFEASIBLE);
        refused("22: no flow", m, x -> x.breakpoints(-11, 8), INFEASIBLE);
        refused("23: no flow", m, x -> x.breakpoint(-11, 8, 0, true), NO_VALUE);
        refused("24: no flow", m, x -> x.slope(0, 8, 0), NO_VALUE);
        refused("20: unbalanced", ErrorTests::solvedForZeroAlone, x -> x.value(1, 3, true), NO_VALUE);
        refused("21: unbalanced", ErrorTests::solvedForZeroAlone, x -> x.problem(1, 3), UNBALANCED);
        refused("22: unbalanced", ErrorTests::solvedForZeroAlone, x -> x.breakpoints(0, 1), UNBALANCED);
    }

    private static void wrongCallsChangeNothingWithoutSolution() {
        Make m = Nets::four;
        refused("2: reset(9), no solution", m, x -> x.reset(9), BAD_VALUE);
        refused("3: unknown, no solution", m, x -> x.addArc(4, 0, 1, 0, 0), UNKNOWN);
        refused("5: bad, no solution", m, x -> x.setArc(0, 1, 101), BAD_VALUE);
        refused("6: bad, no solution", m, x -> x.setSupply(0, 1, 21), BAD_VALUE);
        refused("7: bad, no solution", m, x -> x.setMode(2), BAD_VALUE);
        refused("10: bad, no solution", m, x -> x.solve(0, 0), BAD_VALUE);
        refused("10: unbalanced", ErrorTests::unbalanced, x -> x.solve(0, 1), UNBALANCED);
        refused("10: infeasible", ErrorTests::balancedForZeroAlone, x -> x.solve(0, 1), INFEASIBLE);
        refused("4: no arcs, no solution", ErrorTests::unbalanced, ParametricFlow::removeArc, NONE);
    }

    private static void suppliesStay() {
        ParametricFlow x = Nets.solved(Nets.four(), 0, 1);
        x.setSupply(0, 501, 7);
        x.setSupply(0, -501, 7);
        x.setSupply(0, 7, 21);
        x.setSupply(0, 7, -21);
        x.setSupply(4, 7, 7);
        x.setSupply(-1, 7, 7);
        x.reset(1);
        x.reset(9);
        x.solve(0, 0);
        int[][] due = {{10, 1}, {0, 0}, {0, 0}, {-10, -1}};
        for (int i = 0; i < 4; i++) {
            Due.is("6: the supply of node " + i + " is as it was", x.setSupply(i, due[i][0], due[i][1]), 0);
        }
    }

    // ---- what takes the solution away

    private static void takenAway(String what, Call call, long due) {
        ParametricFlow x = Nets.solved(Nets.four(), 0, 1);
        Due.is(what, call.on(x), due);
        Due.is(what + ": network(5)", x.network(5), 0);
        Due.is(what + ": objective", x.objective(false), NO_VALUE);
        Due.is(what + ": objective, denominator", x.objective(true), NO_VALUE);
        Due.is(what + ": flow", x.flow(0, false), NO_VALUE);
        Due.is(what + ": flow, denominator", x.flow(0, true), NO_VALUE);
        Due.is(what + ": reducedCost", x.reducedCost(0), NO_VALUE);
        Due.is(what + ": potential", x.potential(0), NO_VALUE);
        Due.is(what + ": bound", x.bound(0), x.network(1) == 0 ? UNKNOWN : NO_SOLUTION);
        Due.is(what + ": preorder", x.preorder(0), NO_SOLUTION);
        Due.is(what + ": pivot", x.pivot(0, false), NO_SOLUTION);
        Due.is(what + ": pivot, leaving", x.pivot(0, true), NO_SOLUTION);
        for (int k = 0; k < 4; k++) {
            Due.is(what + ": tree(0, " + k + ")", x.tree(0, k), NO_SOLUTION);
            Due.is(what + ": limit", x.limit(k < 2, k % 2 == 0), NO_VALUE);
        }
    }

    private static void changesTakeTheSolutionAway() {
        takenAway("2: reset(2)", x -> x.reset(2), 4);
        takenAway("2: reset(4), as many as before", x -> x.reset(4), 4);
        takenAway("3: addArc", x -> x.addArc(0, 1, 1, 100, 0), 6);
        takenAway("4: removeArc", ParametricFlow::removeArc, 5);
        takenAway("5: capacity", x -> x.setArc(5, 0, 5), 4);
        takenAway("5: cost", x -> x.setArc(5, 1, 8), 9);
        takenAway("5: slope", x -> x.setArc(5, 2, 0), -2);
        takenAway("5: the same capacity", x -> x.setArc(5, 0, 4), 4);
        takenAway("5: the same cost", x -> x.setArc(5, 1, 9), 9);
        takenAway("5: the same slope", x -> x.setArc(5, 2, -2), -2);
        takenAway("6: supply", x -> x.setSupply(1, 1, 0), 1);
        takenAway("6: slope", x -> x.setSupply(1, 0, 1), 1);
        takenAway("6: the same", x -> x.setSupply(1, 0, 0), 0);
        takenAway("6: the same, with a supply", x -> x.setSupply(0, 10, 1), 0);
        takenAway("7: another mode", x -> x.setMode(1), 0);
        takenAway("7: the same mode", x -> x.setMode(0), 0);
    }

    private static void nextSolveReplacesTheSolution() {
        ParametricFlow x = Nets.solved(Nets.four(), 0, 1);
        Seen first = new Seen(x);
        x.solve(1, 3);
        Due.is("10: another objective, 59 + 8/3", x.objective(false), 185);
        Due.is("10: with its denominator", x.objective(true), 3);
        x.solve(0, 1);
        first.isStill("10: solved for 0 again", new Seen(x));
        new Seen(Nets.solved(Nets.four(), 1, 2)).isStill("10: the same as of a new object", afterAnother());
    }

    private static Seen afterAnother() {
        ParametricFlow x = Nets.four();
        x.solve(-9, 7);
        x.solve(1, 2);
        return new Seen(x);
    }
}
