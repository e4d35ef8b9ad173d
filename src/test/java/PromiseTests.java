/** Each promise of the document by itself, with answers worked out by hand. */
public final class PromiseTests {
    private static final int UNKNOWN = -10001;
    private static final int BAD_VALUE = -10002;
    private static final int UNBALANCED = -10003;
    private static final int INFEASIBLE = -10004;
    private static final int NO_SOLUTION = -10005;
    private static final int FULL = -10006;
    private static final int NONE = -10007;
    private static final long NO_VALUE = Long.MIN_VALUE;
    private static final int LEAST = Integer.MIN_VALUE;
    private static final int GREATEST = Integer.MAX_VALUE;

    private PromiseTests() {
    }

    public static void main(String[] args) {
        constants();
        newObject();
        reset();
        addArc();
        removeArc();
        setArc();
        setSupply();
        setMode();
        arc();
        network();
        solve();
        solutionStaysOrGoes();
        pivot();
        objective();
        flow();
        reducedCost();
        potential();
        bound();
        tree();
        preorder();
        limit();
        value();
        problem();
        breakpoints();
        breakpoint();
        slope();
        noSolutionYet();
        Due.end("PromiseTests");
    }

    private static void constants() {
        Due.is("UNKNOWN", ParametricFlow.UNKNOWN, UNKNOWN);
        Due.is("BAD_VALUE", ParametricFlow.BAD_VALUE, BAD_VALUE);
        Due.is("UNBALANCED", ParametricFlow.UNBALANCED, UNBALANCED);
        Due.is("INFEASIBLE", ParametricFlow.INFEASIBLE, INFEASIBLE);
        Due.is("NO_SOLUTION", ParametricFlow.NO_SOLUTION, NO_SOLUTION);
        Due.is("FULL", ParametricFlow.FULL, FULL);
        Due.is("NONE", ParametricFlow.NONE, NONE);
        Due.is("NO_VALUE", ParametricFlow.NO_VALUE, NO_VALUE);
    }

    private static void newObject() {
        ParametricFlow x = new ParametricFlow();
        int[] due = {2, 0, 0, 0, 0, 0};
        for (int what = 0; what < due.length; what++) {
            Due.is("1: new, network(" + what + ")", x.network(what), due[what]);
        }
        Due.is("1: new, no supply of 0", x.setSupply(0, 0, 0), 0);
        Due.is("1: new, no supply of 1", x.setSupply(1, 0, 0), 0);
        Due.is("1: new, no node 2", x.setSupply(2, 0, 0), UNKNOWN);
        Due.is("1: new, solve", x.solve(0, 1), 0);
    }

    private static void reset() {
        ParametricFlow x = Nets.two();
        x.setMode(1);
        x.solve(0, 1);
        Due.is("2: reset(1)", x.reset(1), BAD_VALUE);
        Due.is("2: reset(9)", x.reset(9), BAD_VALUE);
        Due.is("2: reset(least)", x.reset(LEAST), BAD_VALUE);
        Due.is("2: reset(greatest)", x.reset(GREATEST), BAD_VALUE);
        Due.is("2: errors change nothing, arcs", x.network(1), 2);
        Due.is("2: errors change nothing, solution", x.network(5), 1);
        Due.is("2: reset(8)", x.reset(8), 2);
        Due.is("2: nodes", x.network(0), 8);
        Due.is("2: arcs", x.network(1), 0);
        Due.is("2: mode", x.network(2), 0);
        Due.is("2: no solution", x.network(5), 0);
        for (int i = 0; i < 8; i++) {
            Due.is("2: supply of " + i, x.setSupply(i, 0, 0), 0);
        }
        Due.is("2: reset(2)", x.reset(2), 8);
        x.setSupply(1, 3, 4);
        Due.is("2: reset(2) again", x.reset(2), 2);
        Due.is("2: sum of supplies", x.network(3), 0);
        Due.is("2: sum of slopes", x.network(4), 0);
        Due.is("2: node 2 is gone", x.addArc(0, 2, 1, 0, 0), UNKNOWN);
    }

    private static void addArc() {
        ParametricFlow x = new ParametricFlow();
        x.reset(3);
        Due.is("3: first", x.addArc(0, 1, 1, -100, -20), 0);
        Due.is("3: second", x.addArc(2, 1, 1000, 100, 20), 1);
        Due.is("3: from below", x.addArc(-1, 1, 1, 0, 0), UNKNOWN);
        Due.is("3: from above", x.addArc(3, 1, 1, 0, 0), UNKNOWN);
        Due.is("3: to below", x.addArc(1, -1, 1, 0, 0), UNKNOWN);
        Due.is("3: to above", x.addArc(1, 3, 1, 0, 0), UNKNOWN);
        Due.is("3: unknown ahead of bad", x.addArc(3, 3, 0, 101, 21), UNKNOWN);
        Due.is("3: same nodes", x.addArc(1, 1, 1, 0, 0), BAD_VALUE);
        Due.is("3: capacity 0", x.addArc(0, 1, 0, 0, 0), BAD_VALUE);
        Due.is("3: capacity 1001", x.addArc(0, 1, 1001, 0, 0), BAD_VALUE);
        Due.is("3: cost -101", x.addArc(0, 1, 1, -101, 0), BAD_VALUE);
        Due.is("3: cost 101", x.addArc(0, 1, 1, 101, 0), BAD_VALUE);
        Due.is("3: slope -21", x.addArc(0, 1, 1, 0, -21), BAD_VALUE);
        Due.is("3: slope 21", x.addArc(0, 1, 1, 0, 21), BAD_VALUE);
        Due.is("3: extremes", x.addArc(LEAST, GREATEST, LEAST, LEAST, LEAST), UNKNOWN);
        Due.is("3: errors add nothing", x.network(1), 2);
        for (int k = 2; k < 20; k++) {
            Due.is("3: arc " + k, x.addArc(k % 2, 2, k, k, k - 10), k);
        }
        x.solve(0, 1);
        Due.is("3: full", x.addArc(0, 1, 1, 0, 0), FULL);
        Due.is("3: bad ahead of full", x.addArc(0, 0, 1, 0, 0), BAD_VALUE);
        Due.is("3: unknown ahead of full", x.addArc(0, 5, 1, 0, 0), UNKNOWN);
        Due.is("3: full keeps the solution", x.network(5), 1);
        Due.is("3: still 20", x.network(1), 20);
    }

    private static void removeArc() {
        ParametricFlow x = Nets.two();
        Due.is("4: one left", x.removeArc(), 1);
        Due.is("4: the highest is gone", x.arc(1, 0), UNKNOWN);
        Due.is("4: the other one stays", x.arc(0, 2), 4);
        Due.is("4: none left", x.removeArc(), 0);
        Due.is("4: no arc", x.removeArc(), NONE);
        Due.is("4: arcs", x.network(1), 0);
        Due.is("4: its number is free again", x.addArc(1, 0, 9, 1, 1), 0);
        Due.is("4: with its own properties", x.arc(0, 2), 9);
    }

    private static void setArc() {
        ParametricFlow x = Nets.two();
        Due.is("5: capacity", x.setArc(0, 0, 1000), 4);
        Due.is("5: capacity again", x.setArc(0, 0, 1), 1000);
        Due.is("5: cost", x.setArc(1, 1, -100), 5);
        Due.is("5: cost again", x.setArc(1, 1, 100), -100);
        Due.is("5: slope", x.setArc(1, 2, 20), -1);
        Due.is("5: slope again", x.setArc(1, 2, -20), 20);
        Due.is("5: arc -1", x.setArc(-1, 0, 1), UNKNOWN);
        Due.is("5: arc 2", x.setArc(2, 0, 1), UNKNOWN);
        Due.is("5: artificial arc", x.setArc(100, 0, 1), UNKNOWN);
        Due.is("5: unknown ahead of bad", x.setArc(2, 9, 9999), UNKNOWN);
        x.solve(0, 1);
        int[][] bad = {{-1, 1}, {3, 1}, {0, 0}, {0, 1001}, {1, -101}, {1, 101}, {2, -21}, {2, 21}, {LEAST, 1},
            {GREATEST, 1}, {0, LEAST}, {1, LEAST}, {2, GREATEST}};
        for (int[] b : bad) {
            Due.is("5: setArc(1, " + b[0] + ", " + b[1] + ")", x.setArc(1, b[0], b[1]), BAD_VALUE);
        }
        int[] due = {0, 1, 10, 100, -20};
        for (int what = 0; what < 5; what++) {
            Due.is("5: then arc(1, " + what + ")", x.arc(1, what), due[what]);
        }
        Due.is("5: arc 0", x.arc(0, 2), 1);
    }

    private static void setSupply() {
        ParametricFlow x = new ParametricFlow();
        Due.is("6: both", x.setSupply(0, 500, 20), 1);
        Due.is("6: the same", x.setSupply(0, 500, 20), 0);
        Due.is("6: slope alone", x.setSupply(0, 500, -20), 1);
        Due.is("6: supply alone", x.setSupply(0, -500, -20), 1);
        Due.is("6: another node", x.setSupply(1, 7, 3), 1);
        Due.is("6: node -1", x.setSupply(-1, 0, 0), UNKNOWN);
        Due.is("6: node 2", x.setSupply(2, 0, 0), UNKNOWN);
        Due.is("6: unknown ahead of bad", x.setSupply(2, 501, 0), UNKNOWN);
        Due.is("6: supply 501", x.setSupply(0, 501, 0), BAD_VALUE);
        Due.is("6: supply -501", x.setSupply(0, -501, 0), BAD_VALUE);
        Due.is("6: slope 21", x.setSupply(0, 0, 21), BAD_VALUE);
        Due.is("6: slope -21", x.setSupply(0, 0, -21), BAD_VALUE);
        Due.is("6: supply least", x.setSupply(0, LEAST, 0), BAD_VALUE);
        Due.is("6: slope greatest", x.setSupply(0, 0, GREATEST), BAD_VALUE);
        Due.is("6: sum", x.network(3), -493);
        Due.is("6: sum of slopes", x.network(4), -17);
    }

    private static void setMode() {
        ParametricFlow x = new ParametricFlow();
        Due.is("7: to 1", x.setMode(1), 0);
        Due.is("7: to 1 again", x.setMode(1), 1);
        Due.is("7: 2", x.setMode(2), BAD_VALUE);
        Due.is("7: -1", x.setMode(-1), BAD_VALUE);
        Due.is("7: least", x.setMode(LEAST), BAD_VALUE);
        Due.is("7: still 1", x.network(2), 1);
        Due.is("7: to 0", x.setMode(0), 1);
        Due.is("7: 0", x.network(2), 0);
    }

    private static void arc() {
        ParametricFlow x = new ParametricFlow();
        x.reset(5);
        x.addArc(4, 1, 17, -3, 2);
        x.addArc(2, 3, 18, 30, -20);
        int[] first = {4, 1, 17, -3, 2};
        int[] second = {2, 3, 18, 30, -20};
        for (int what = 0; what < 5; what++) {
            Due.is("8: arc(0, " + what + ")", x.arc(0, what), first[what]);
            Due.is("8: arc(1, " + what + ")", x.arc(1, what), second[what]);
        }
        Due.is("8: arc(-1, 0)", x.arc(-1, 0), UNKNOWN);
        Due.is("8: arc(2, 0)", x.arc(2, 0), UNKNOWN);
        Due.is("8: arc(20, 0)", x.arc(20, 0), UNKNOWN);
        Due.is("8: arc(greatest, 0)", x.arc(GREATEST, 0), UNKNOWN);
        Due.is("8: arc(2, 5)", x.arc(2, 5), UNKNOWN);
        Due.is("8: arc(1, 5)", x.arc(1, 5), BAD_VALUE);
        Due.is("8: arc(1, -1)", x.arc(1, -1), BAD_VALUE);
    }

    private static void network() {
        ParametricFlow x = Nets.four();
        x.setSupply(1, 4, 7);
        x.setMode(1);
        int[] due = {4, 6, 1, 4, 7, 0};
        for (int what = 0; what < due.length; what++) {
            Due.is("9: network(" + what + ")", x.network(what), due[what]);
        }
        x.setSupply(1, 0, 0);
        x.solve(0, 1);
        Due.is("9: a solution", x.network(5), 1);
        Due.is("9: network(-1)", x.network(-1), BAD_VALUE);
        Due.is("9: network(6)", x.network(6), BAD_VALUE);
        Due.is("9: network(least)", x.network(LEAST), BAD_VALUE);
    }

    private static void solve() {
        ParametricFlow x = Nets.two();
        Due.is("10: p below", x.solve(-10001, 1), BAD_VALUE);
        Due.is("10: p above", x.solve(10001, 1), BAD_VALUE);
        Due.is("10: q 0", x.solve(0, 0), BAD_VALUE);
        Due.is("10: q negative", x.solve(0, -1), BAD_VALUE);
        Due.is("10: q above", x.solve(0, 1001), BAD_VALUE);
        Due.is("10: extremes", x.solve(LEAST, GREATEST), BAD_VALUE);
        Due.is("10: arc 0 fills, arc 1 takes the rest", x.solve(0, 1), 2);
        Due.is("10: arc 1 takes all", x.solve(2, 1), 1);
        Due.is("10: greatest parameter", x.solve(10000, 1), 1);
        Due.is("10: least parameter", x.solve(-10000, 1), 2);
        Due.is("10: small parameter", x.solve(-10000, 1000), 2);
        Due.is("10: five pivots", Nets.four().solve(0, 1), 5);
        Due.is("10: five pivots, mode 1", Nets.mode(Nets.four(), 1).solve(3, 2), 5);
        x.setSupply(0, 7, 1);
        Due.is("10: unbalanced", x.solve(0, 1), UNBALANCED);
        Due.is("10: bad ahead of unbalanced", x.solve(0, 0), BAD_VALUE);
        x.setSupply(1, -7, 0);
        Due.is("10: slopes count not in mode 0", x.solve(5, 1), 1);
        x.setMode(1);
        Due.is("10: slopes count in mode 1", x.solve(5, 1), UNBALANCED);
        Due.is("10: but not for 0", x.solve(0, 1), 2);
        x.setSupply(0, 15, 0);
        x.setSupply(1, -15, 0);
        Due.is("10: too much", x.solve(0, 1), INFEASIBLE);
        x.setSupply(0, 14, 0);
        Due.is("10: unbalanced ahead of infeasible", x.solve(0, 1), UNBALANCED);
        x.setSupply(1, -14, 0);
        Due.is("10: as much as fits", x.solve(0, 1), 2);
        x.setSupply(0, -1, 0);
        x.setSupply(1, 1, 0);
        Due.is("10: the wrong way", x.solve(0, 1), INFEASIBLE);
        x.setSupply(0, -1, 1);
        x.setSupply(1, -1, 3);
        Due.is("10: balanced for 1/2 alone", x.solve(1, 2), INFEASIBLE);
        Due.is("10: not for 1", x.solve(1, 1), UNBALANCED);
    }

    private static void solutionStaysOrGoes() {
        ParametricFlow x = Nets.mode(Nets.two(), 1);
        x.solve(-5, 2);
        Due.is("10: infeasible for 9", x.solve(9, 1), INFEASIBLE);
        Due.is("10: bad", x.solve(1, 0), BAD_VALUE);
        x.value(0, 1, false);
        x.breakpoints(-6, 8);
        x.slope(-6, 8, 1);
        x.problem(100, 1);
        x.setArc(7, 0, 1);
        x.setArc(0, 0, 0);
        x.setMode(2);
        x.reset(0);
        x.setSupply(0, 501, 0);
        x.addArc(0, 0, 1, 1, 1);
        Due.is("solution: it stays, objective", x.objective(false), 21);
        Due.is("solution: it stays, flow", x.flow(0, false), 7);
        Due.is("solution: it stays, pivots", x.pivot(1, false), NONE);
        Due.is("solution: it stays, limit", x.limit(true, false), -2);
        for (int change = 0; change < 9; change++) {
            x = Nets.two();
            x.solve(0, 1);
            Due.is("solution: there before change " + change, x.network(5), 1);
            switch (change) {
                case 0: x.reset(2); break;
                case 1: x.addArc(0, 1, 1, 1, 1); break;
                case 2: x.removeArc(); break;
                case 3: x.setArc(0, 1, 3); break;
                case 4: x.setSupply(0, 6, 1); break;
                case 5: x.setMode(0); break;
                case 6: x.setMode(1); break;
                case 7: x.setSupply(0, 1, 1); break;
                default: x.setArc(1, 0, 3); break;
            }
            Due.is("solution: gone after change " + change, x.network(5), 0);
            Due.is("solution: no objective after change " + change, x.objective(false), NO_VALUE);
        }
        x = new ParametricFlow();
        x.solve(0, 1);
        Due.is("solution: removeArc() without arcs", x.removeArc(), NONE);
        Due.is("solution: is no change", x.network(5), 1);
    }

    private static void pivot() {
        ParametricFlow x = Nets.two();
        x.solve(0, 1);
        Due.is("11: arc 0 enters", x.pivot(0, false), 0);
        Due.is("11: and goes to its other bound", x.pivot(0, true), 0);
        Due.is("11: arc 1 enters", x.pivot(1, false), 1);
        Due.is("11: for the artificial arc of node 1", x.pivot(1, true), 101);
        Due.is("11: no third one", x.pivot(2, false), NONE);
        Due.is("11: nor any later", x.pivot(GREATEST, true), NONE);
        Due.is("11: -1", x.pivot(-1, false), BAD_VALUE);
        Due.is("11: least", x.pivot(LEAST, true), BAD_VALUE);
        x.addArc(0, 1, 4, 3, 2);
        x.solve(0, 1);
        Due.is("11: of equal arcs the one with the lower number", x.pivot(0, false), 0);
        Due.is("11: then the other one", x.pivot(1, false), 2);
        Due.is("11: which takes the rest", x.pivot(1, true), 101);
        x.setSupply(0, 4, 0);
        x.setSupply(1, -4, 0);
        x.solve(0, 1);
        Due.is("11: of equal amounts the last one", x.pivot(0, true), 101);
        x = Nets.four();
        x.solve(0, 1);
        int[][] due = {{4, 102}, {2, 101}};
        for (int k = 0; k < due.length; k++) {
            Due.is("11: enters in pivot " + k, x.pivot(k, false), due[k][0]);
            Due.is("11: leaves in pivot " + k, x.pivot(k, true), due[k][1]);
        }
    }

    private static void objective() {
        ParametricFlow x = Nets.two();
        x.solve(0, 1);
        Due.is("12: 4 * 3 + 2 * 5", x.objective(false), 22);
        Due.is("12: 22 / 1", x.objective(true), 1);
        x.solve(1, 2);
        Due.is("12: 4 * 4 + 2 * 9/2", x.objective(false), 25);
        Due.is("12: 25 / 1", x.objective(true), 1);
        x.solve(1, 4);
        Due.is("12: 4 * 7/2 + 2 * 19/4", x.objective(false), 47);
        Due.is("12: 47 / 2", x.objective(true), 2);
        x.solve(-1001, 100);
        Due.is("12: 22 - 6 * 10.01", x.objective(false), -1903);
        Due.is("12: with denominator 50", x.objective(true), 50);
        x.setMode(1);
        x.solve(-5, 2);
        Due.is("12: 7/2 * 3", x.objective(false), 21);
        Due.is("12: 21 / 2", x.objective(true), 2);
        x.solve(-12, 2);
        Due.is("12: nothing flows", x.objective(false), 0);
        Due.is("12: 0 / 1", x.objective(true), 1);
    }

    private static void flow() {
        ParametricFlow x = Nets.two();
        x.solve(7, 10);
        Due.is("13: arc 0, dearer now", x.flow(0, false), 0);
        Due.is("13: 0 / 1", x.flow(0, true), 1);
        Due.is("13: arc 1", x.flow(1, false), 6);
        Due.is("13: 6 / 1", x.flow(1, true), 1);
        x.setMode(1);
        x.solve(-1, 3);
        Due.is("13: arc 0 is full", x.flow(0, false), 4);
        Due.is("13: 4 / 1", x.flow(0, true), 1);
        Due.is("13: the rest", x.flow(1, false), 5);
        Due.is("13: 5 / 3", x.flow(1, true), 3);
        x.solve(-10, 4);
        Due.is("13: 14 / 4", x.flow(0, false), 7);
        Due.is("13: in lowest terms", x.flow(0, true), 2);
        Due.is("13: no arc 2", x.flow(2, false), NO_VALUE);
        Due.is("13: no arc -1", x.flow(-1, true), NO_VALUE);
        Due.is("13: not the artificial arcs", x.flow(100, false), NO_VALUE);
    }

    private static void reducedCost() {
        ParametricFlow x = Nets.two();
        x.solve(0, 1);
        Due.is("14: at the upper bound", x.reducedCost(0), -2);
        Due.is("14: in the tree", x.reducedCost(1), 0);
        x.solve(4, 2);
        Due.is("14: at the lower bound, scaled as p / q is given", x.reducedCost(0), 8);
        x.solve(-1, 3);
        Due.is("14: scaled by 3", x.reducedCost(0), -9);
        x.setMode(1);
        x.solve(-5, 2);
        Due.is("14: not scaled in mode 1", x.reducedCost(1), 2);
        Due.is("14: no arc 2", x.reducedCost(2), NO_VALUE);
        Due.is("14: no arc -1", x.reducedCost(-1), NO_VALUE);
        Due.is("14: not the artificial arcs", x.reducedCost(101), NO_VALUE);
        x = Nets.four();
        x.solve(0, 1);
        Due.is("14: arc 5 of four", x.reducedCost(5), 2);
    }

    private static void potential() {
        ParametricFlow x = Nets.two();
        x.solve(0, 1);
        Due.is("15: 1 + 2 * 5", x.potential(0), 11);
        Due.is("15: 11 - 5", x.potential(1), 6);
        x.solve(4, 2);
        Due.is("15: 1 + 2 * 14", x.potential(0), 29);
        Due.is("15: 29 - 6", x.potential(1), 23);
        x.setMode(1);
        x.solve(-5, 2);
        Due.is("15: not scaled in mode 1", x.potential(0), 11);
        Due.is("15: 11 - 3", x.potential(1), 8);
        Due.is("15: no node 2 (the root)", x.potential(2), NO_VALUE);
        Due.is("15: no node -1", x.potential(-1), NO_VALUE);
        x = new ParametricFlow();
        x.solve(0, 1);
        Due.is("15: 1 without arcs", x.potential(1), 1);
        x.reset(5);
        x.addArc(0, 1, 1, -7, 0);
        x.setSupply(0, 1, 0);
        x.setSupply(1, -1, 0);
        x.solve(0, 1);
        Due.is("15: 1 + 5 * 7, of the absolute value", x.potential(4), 36);
        Due.is("15: 36 + 7", x.potential(1), 43);
    }

    private static void bound() {
        ParametricFlow x = Nets.two();
        Due.is("16: unknown ahead of no solution", x.bound(2), UNKNOWN);
        Due.is("16: no solution", x.bound(1), NO_SOLUTION);
        x.solve(0, 1);
        Due.is("16: upper", x.bound(0), 1);
        Due.is("16: tree", x.bound(1), 2);
        x.solve(2, 1);
        Due.is("16: lower", x.bound(0), 0);
        Due.is("16: arc 2", x.bound(2), UNKNOWN);
        Due.is("16: arc -1", x.bound(-1), UNKNOWN);
        Due.is("16: not the artificial arcs", x.bound(100), UNKNOWN);
        x.setMode(1);
        x.solve(-2, 1);
        Due.is("16: full, and in the tree", x.bound(0), 2);
        Due.is("16: empty, at the lower bound", x.bound(1), 0);
    }

    private static void tree() {
        ParametricFlow x = Nets.two();
        Due.is("17: unknown ahead of no solution", x.tree(2, 0), UNKNOWN);
        Due.is("17: no solution ahead of bad", x.tree(0, 9), NO_SOLUTION);
        x.solve(0, 1);
        int[][] due = {{2, 100, 1, 2}, {0, 1, 2, 1}};
        for (int node = 0; node < 2; node++) {
            for (int what = 0; what < 4; what++) {
                Due.is("17: tree(" + node + ", " + what + ")", x.tree(node, what), due[node][what]);
            }
        }
        Due.is("17: what -1", x.tree(0, -1), BAD_VALUE);
        Due.is("17: what 4", x.tree(0, 4), BAD_VALUE);
        Due.is("17: not the root", x.tree(2, 0), UNKNOWN);
        Due.is("17: node -1", x.tree(-1, 0), UNKNOWN);
        x = Nets.four();
        x.solve(0, 1);
        int[][] four = {{4, 100, 1, 4}, {0, 0, 2, 3}, {3, 4, 4, 1}, {1, 3, 3, 2}};
        for (int node = 0; node < 4; node++) {
            for (int what = 0; what < 4; what++) {
                Due.is("17: four, tree(" + node + ", " + what + ")", x.tree(node, what), four[node][what]);
            }
        }
    }

    private static void preorder() {
        ParametricFlow x = Nets.four();
        Due.is("18: no solution ahead of bad", x.preorder(-1), NO_SOLUTION);
        x.solve(0, 1);
        int[] due = {4, 0, 1, 3, 2};
        for (int k = 0; k < due.length; k++) {
            Due.is("18: preorder(" + k + ")", x.preorder(k), due[k]);
        }
        Due.is("18: 5", x.preorder(5), NONE);
        Due.is("18: greatest", x.preorder(GREATEST), NONE);
        Due.is("18: -1", x.preorder(-1), BAD_VALUE);
        x.reset(3);
        x.addArc(2, 0, 5, 1, 0);
        x.setSupply(2, 3, 0);
        x.setSupply(0, -3, 0);
        x.solve(0, 1);
        int[] hung = {3, 1, 2, 0};
        for (int k = 0; k < hung.length; k++) {
            Due.is("18: node 0 below node 2, preorder(" + k + ")", x.preorder(k), hung[k]);
        }
    }

    private static void limit() {
        ParametricFlow x = Nets.two();
        x.solve(0, 1);
        Due.is("19: arc 0 stays full up to 2/3", x.limit(true, false), 2);
        Due.is("19: 2 / 3", x.limit(true, true), 3);
        Due.is("19: no lower end", x.limit(false, false), NO_VALUE);
        Due.is("19: nor its denominator", x.limit(false, true), NO_VALUE);
        x.solve(4, 2);
        Due.is("19: arc 0 stays empty from 2/3 on", x.limit(false, false), 2);
        Due.is("19: 2 / 3 again", x.limit(false, true), 3);
        Due.is("19: no upper end", x.limit(true, true), NO_VALUE);
        x.setMode(1);
        x.solve(-5, 2);
        Due.is("19: 6 + x at least 0", x.limit(false, false), -6);
        Due.is("19: -6 / 1", x.limit(false, true), 1);
        Due.is("19: 6 + x at most 4", x.limit(true, false), -2);
        x.setSupply(1, -6, 0);
        x.solve(0, 1);
        Due.is("19: unbalanced beside 0, below", x.limit(false, false), 0);
        Due.is("19: 0 / 1", x.limit(false, true), 1);
        Due.is("19: unbalanced beside 0, above", x.limit(true, false), 0);
        x.reset(3);
        x.solve(0, 1);
        Due.is("19: nothing depends on it, below", x.limit(false, false), NO_VALUE);
        Due.is("19: nothing depends on it, above", x.limit(true, false), NO_VALUE);
        x = Nets.four();
        x.solve(0, 1);
        Due.is("19: four, lower", x.limit(false, false), -1);
        Due.is("19: four, upper", x.limit(true, false), 2);
        Due.is("19: four, upper, denominator", x.limit(true, true), 3);
    }

    private static void value() {
        ParametricFlow x = Nets.two();
        Due.is("20: 22", x.value(0, 1, false), 22);
        Due.is("20: 22 / 1", x.value(0, 1, true), 1);
        Due.is("20: 47 / 2", x.value(1, 4, false), 47);
        Due.is("20: its denominator", x.value(1, 4, true), 2);
        Due.is("20: without a solution", x.network(5), 0);
        Due.is("20: p above", x.value(10001, 1, false), NO_VALUE);
        Due.is("20: p below", x.value(-10001, 1, true), NO_VALUE);
        Due.is("20: q 0", x.value(0, 0, false), NO_VALUE);
        Due.is("20: q above", x.value(0, 1001, true), NO_VALUE);
        x.setMode(1);
        Due.is("20: 5/3 of arc 1 too", x.value(-1, 3, false), 61);
        Due.is("20: 61 / 3", x.value(-1, 3, true), 3);
        Due.is("20: no flow", x.value(9, 1, false), NO_VALUE);
        Due.is("20: no flow, denominator", x.value(9, 1, true), NO_VALUE);
        x.setSupply(0, 6, 0);
        Due.is("20: unbalanced", x.value(1, 1, false), NO_VALUE);
    }

    private static void problem() {
        ParametricFlow x = Nets.mode(Nets.two(), 1);
        Due.is("21: none", x.problem(0, 1), NONE);
        Due.is("21: none at the end", x.problem(8, 1), NONE);
        Due.is("21: infeasible beyond it", x.problem(8001, 1000), INFEASIBLE);
        Due.is("21: infeasible below", x.problem(-7, 1), INFEASIBLE);
        Due.is("21: p above", x.problem(10001, 1), BAD_VALUE);
        Due.is("21: p below", x.problem(-10001, 1), BAD_VALUE);
        Due.is("21: q 0", x.problem(0, 0), BAD_VALUE);
        Due.is("21: q above", x.problem(0, 1001), BAD_VALUE);
        x.setSupply(0, 6, 0);
        Due.is("21: balanced for 0", x.problem(0, 1), NONE);
        Due.is("21: unbalanced for 1", x.problem(1, 1), UNBALANCED);
        x.setSupply(0, 7, 0);
        x.setMode(0);
        Due.is("21: unbalanced", x.problem(0, 1), UNBALANCED);
        Due.is("21: bad ahead of unbalanced", x.problem(0, 0), BAD_VALUE);
    }

    private static void breakpoints() {
        ParametricFlow x = Nets.two();
        Due.is("22: one at 2/3", x.breakpoints(0, 1), 1);
        Due.is("22: the whole range", x.breakpoints(-1000, 1000), 1);
        Due.is("22: none behind it", x.breakpoints(1, 2), 0);
        Due.is("22: none ahead of it", x.breakpoints(-9, 0), 0);
        int[][] bad = {{-1001, 0}, {0, 0}, {1, 0}, {1000, 1001}, {1000, 1000}, {0, 1001}, {1001, 1002},
            {LEAST, GREATEST}, {GREATEST, LEAST}, {999, LEAST}};
        for (int[] b : bad) {
            Due.is("22: breakpoints(" + b[0] + ", " + b[1] + ")", x.breakpoints(b[0], b[1]), BAD_VALUE);
        }
        x.setMode(1);
        Due.is("22: one at -2", x.breakpoints(-6, 8), 1);
        Due.is("22: not at the lower end", x.breakpoints(-2, 8), 0);
        Due.is("22: not at the upper end", x.breakpoints(-6, -2), 0);
        Due.is("22: low is infeasible", x.breakpoints(-7, 8), INFEASIBLE);
        Due.is("22: high is infeasible", x.breakpoints(-6, 9), INFEASIBLE);
        x.setArc(0, 0, 5);
        Due.is("22: after a change", x.breakpoints(-2, 8), 1);
        x.setSupply(0, 6, 0);
        Due.is("22: low is unbalanced", x.breakpoints(-1, 0), UNBALANCED);
        Due.is("22: high is unbalanced", x.breakpoints(0, 1), UNBALANCED);
        x.setSupply(1, -500, 0);
        Due.is("22: bad ahead of unbalanced", x.breakpoints(1, 1), BAD_VALUE);
        x.setSupply(0, 500, 1);
        Due.is("22: unbalanced ahead of infeasible", x.breakpoints(0, 1), UNBALANCED);
    }

    private static void breakpoint() {
        ParametricFlow x = Nets.two();
        Due.is("23: 2 / 3", x.breakpoint(-5, 5, 0, false), 2);
        Due.is("23: its denominator", x.breakpoint(-5, 5, 0, true), 3);
        Due.is("23: no second one", x.breakpoint(-5, 5, 1, false), NO_VALUE);
        Due.is("23: -1", x.breakpoint(-5, 5, -1, true), NO_VALUE);
        Due.is("23: none there", x.breakpoint(1, 5, 0, false), NO_VALUE);
        Due.is("23: bad interval", x.breakpoint(5, 5, 0, false), NO_VALUE);
        Due.is("23: greatest", x.breakpoint(-5, 5, GREATEST, false), NO_VALUE);
        x.addArc(0, 1, 1, 6, 0);
        Due.is("23: arc 1 meets arc 2", x.breakpoint(-5, 5, 0, false), -1);
        Due.is("23: -1 / 1", x.breakpoint(-5, 5, 0, true), 1);
        Due.is("23: then arc 0 meets arc 1", x.breakpoint(-5, 5, 1, false), 2);
        x.removeArc();
        x.setMode(1);
        Due.is("23: arc 0 is full", x.breakpoint(-6, 8, 0, false), -2);
        Due.is("23: arc 0 is full, denominator", x.breakpoint(-6, 8, 0, true), 1);
        Due.is("23: infeasible", x.breakpoint(-7, 8, 0, false), NO_VALUE);
        x.setSupply(0, 6, 0);
        Due.is("23: unbalanced", x.breakpoint(-6, 8, 0, false), NO_VALUE);
    }

    private static void slope() {
        ParametricFlow x = Nets.two();
        Due.is("24: 4 * 2 - 2 * 1", x.slope(-5, 5, 0), 6);
        Due.is("24: 6 * -1", x.slope(-5, 5, 1), -6);
        Due.is("24: no third piece", x.slope(-5, 5, 2), NO_VALUE);
        Due.is("24: -1", x.slope(-5, 5, -1), NO_VALUE);
        Due.is("24: least", x.slope(-5, 5, LEAST), NO_VALUE);
        Due.is("24: one piece", x.slope(1, 5, 0), -6);
        Due.is("24: one piece, no second one", x.slope(1, 5, 1), NO_VALUE);
        Due.is("24: bad interval", x.slope(5, 4, 0), NO_VALUE);
        x.setMode(1);
        Due.is("24: by arc 0", x.slope(-6, 8, 0), 3);
        Due.is("24: by arc 1", x.slope(-6, 8, 1), 5);
        Due.is("24: from the breakpoint on", x.slope(-2, 8, 0), 5);
        Due.is("24: up to the breakpoint", x.slope(-6, -2, 0), 3);
        Due.is("24: infeasible", x.slope(-6, 9, 0), NO_VALUE);
        x.setSupply(0, 6, 0);
        Due.is("24: unbalanced", x.slope(-6, 8, 0), NO_VALUE);
        x.setSupply(1, -6, 0);
        Due.is("24: nothing depends on it", x.slope(-6, 8, 0), 0);
    }

    private static void noSolutionYet() {
        ParametricFlow x = Nets.two();
        Due.is("11: no solution", x.pivot(-1, false), NO_SOLUTION);
        Due.is("12: no solution", x.objective(false), NO_VALUE);
        Due.is("12: no solution, denominator", x.objective(true), NO_VALUE);
        Due.is("13: no solution", x.flow(0, false), NO_VALUE);
        Due.is("14: no solution", x.reducedCost(0), NO_VALUE);
        Due.is("15: no solution", x.potential(0), NO_VALUE);
        Due.is("19: no solution", x.limit(true, false), NO_VALUE);
        Due.is("19: no solution, denominator", x.limit(false, true), NO_VALUE);
    }
}
