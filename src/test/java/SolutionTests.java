/**
 * What the document says under "Terms" of networks, scaling, pivots, trees and the range of a tree, sentence by
 * sentence at its boundaries. All answers were worked out by hand.
 */
public final class SolutionTests {
    private static final int UNBALANCED = -10003;
    private static final int INFEASIBLE = -10004;
    private static final int NONE = -10007;
    private static final long NO_VALUE = Long.MIN_VALUE;

    private SolutionTests() {
    }

    public static void main(String[] args) {
        fiveHundredAndTwelveCalls();
        capacityIsTheMost();
        nothingIsTheLeast();
        parameterIsInCosts();
        parameterIsInSupplies();
        scaledAsGiven();
        scaledBySupplies();
        suppliesAddUp();
        supplyOfNoughtLeadsToTheRoot();
        costOfArtificialArcs();
        firstTree();
        artificialFlowAtTheEnd();
        reducedCostOfNought();
        lowestNumberOfSeveral();
        greatestOfBothBounds();
        againstTheDirection();
        changeOfNought();
        lastOfSeveral();
        enteringOneLeaves();
        artificialNeverEntersAgain();
        deepTree();
        growingTree();
        wideTree();
        orderOfChildren();
        noEndInCosts();
        oneEndInCosts();
        bothEndsInCosts();
        nearestOfSeveral();
        oneParameterAlone();
        endsInSupplies();
        artificialArcsStayEmpty();
        fractionsOfSolutions();
        Due.end("SolutionTests");
    }

    /** The pivots of a solution for p / q, each the arc that enters and the one that leaves. */
    private static void pivots(String what, ParametricFlow x, int[][] due) {
        Due.is(what + ": pivots", x.solve(0, 1), due.length);
        for (int k = 0; k < due.length; k++) {
            Due.is(what + ": enters in pivot " + k, x.pivot(k, false), due[k][0]);
            Due.is(what + ": leaves in pivot " + k, x.pivot(k, true), due[k][1]);
        }
        Due.is(what + ": no further pivot", x.pivot(due.length, false), NONE);
    }

    private static void flowsAndBounds(String what, ParametricFlow x, long[] flows, int[] bounds) {
        for (int a = 0; a < flows.length; a++) {
            Due.is(what + ": flow " + a, x.flow(a, false), flows[a]);
            Due.is(what + ": bound " + a, x.bound(a), bounds[a]);
        }
    }

    private static void potentials(String what, ParametricFlow x, long... due) {
        for (int i = 0; i < due.length; i++) {
            Due.is(what + ": potential " + i, x.potential(i), due[i]);
        }
    }

    private static void preorder(String what, ParametricFlow x, int... due) {
        for (int k = 0; k < due.length; k++) {
            Due.is(what + ": preorder " + k, x.preorder(k), due[k]);
        }
        Due.is(what + ": no further node", x.preorder(due.length), NONE);
    }

    /** Both ends, as numerator and denominator; null where there is no end. */
    private static void limits(String what, ParametricFlow x, long[] lower, long[] upper) {
        for (boolean up : new boolean[] {false, true}) {
            long[] due = up ? upper : lower;
            String end = what + (up ? ": upper end" : ": lower end");
            Due.is(end, x.limit(up, false), due == null ? NO_VALUE : due[0]);
            Due.is(end + ", denominator", x.limit(up, true), due == null ? NO_VALUE : due[1]);
        }
    }

    private static long[] at(long p, long q) {
        return new long[] {p, q};
    }

    /** "An object is used for at most 512 calls": the last one is answered like the first one. */
    private static void fiveHundredAndTwelveCalls() {
        ParametricFlow x = Nets.four();
        // The network itself has taken 9 calls.
        for (int calls = 9; calls < 511; calls++) {
            int kind = (calls - 9) % 5;
            if (kind == 0) {
                Due.is("512 calls: solve", x.solve(0, 1), 5);
            } else if (kind == 1) {
                Due.is("512 calls: breakpoints", x.breakpoints(-10, 10), 4);
            } else if (kind == 2) {
                Due.is("512 calls: setSupply", x.setSupply(0, 10, 1), 0);
            } else if (kind == 3) {
                Due.is("512 calls: removeArc", x.removeArc(), 5);
            } else {
                Due.is("512 calls: addArc", x.addArc(0, 3, 4, 9, -2), 5);
            }
        }
        Due.is("512 calls: the last one", x.value(0, 1, false), 59);
    }

    // ---- networks and flows

    /** "A flow gives each arc a number from 0 to its capacity": what just fits, and a bit more. */
    private static void capacityIsTheMost() {
        ParametricFlow x = Nets.parallel(14, 0, new int[][] {{4, 3, 2}, {10, 5, -1}});
        Due.is("capacity: 14 of 14", x.solve(0, 1), 2);
        flowsAndBounds("capacity: 14 of 14", x, new long[] {4, 10}, new int[] {1, 2});
        x = Nets.parallel(15, 0, new int[][] {{4, 3, 2}, {10, 5, -1}});
        Due.is("capacity: 15 of 14", x.solve(0, 1), INFEASIBLE);
        x = Nets.mode(Nets.two(), 1);
        Due.is("capacity: 14 of 14 in mode 1", x.solve(8, 1), 2);
        Due.is("capacity: 14 and 1/1000 of 14", x.solve(8001, 1000), INFEASIBLE);
        Due.is("capacity: 14 - 1/1000 of 14", x.solve(7999, 1000), 2);
        x = Nets.parallel(1, 0, new int[][] {{1, 0, 0}});
        Due.is("capacity: 1 of 1", x.solve(0, 1), 1);
        x = Nets.parallel(500, 0, new int[][] {{499, 0, 0}, {1, 0, 0}});
        Due.is("capacity: 500 of 499 and 1", x.solve(0, 1), 2);
        flowsAndBounds("capacity: 500 of 499 and 1", x, new long[] {499, 1}, new int[] {1, 2});
        x.removeArc();
        Due.is("capacity: 500 of 499", x.solve(0, 1), INFEASIBLE);
        x = Nets.row(8);
        Due.is("capacity: 5 of 5 through a row", x.solve(0, 1), 7);
        x.setArc(3, 0, 4);
        Due.is("capacity: 5 of 4 somewhere", x.solve(0, 1), INFEASIBLE);
    }

    private static void nothingIsTheLeast() {
        ParametricFlow x = Nets.mode(Nets.two(), 1);
        Due.is("least flow: nothing is left to flow", x.solve(-6, 1), 0);
        flowsAndBounds("least flow: 0", x, new long[] {0, 0}, new int[] {0, 0});
        Due.is("least flow: below 0", x.solve(-6001, 1000), INFEASIBLE);
        Due.is("least flow: 1/1000", x.solve(-5999, 1000), 1);
        Due.is("least flow: 1/1000, numerator", x.flow(0, false), 1);
        Due.is("least flow: 1/1000, denominator", x.flow(0, true), 1000);
    }

    /** "In mode 0 the parameter is in the costs ... and supplies are as they are." */
    private static void parameterIsInCosts() {
        ParametricFlow x = Nets.two();
        x.setSupply(0, 6, 20);
        Due.is("mode 0: slopes of supplies need not add up to 0", x.solve(10, 1), 1);
        flowsAndBounds("mode 0: 6 flow for any parameter", x, new long[] {0, 6}, new int[] {0, 2});
        Due.is("mode 0: arc 1 for 5 - 10", x.objective(false), -30);
    }

    /** "In mode 1 it is in the supplies ... and costs are as they are." */
    private static void parameterIsInSupplies() {
        ParametricFlow x = Nets.mode(Nets.two(), 1);
        Due.is("mode 1: solve", x.solve(2, 1), 2);
        flowsAndBounds("mode 1: 8 flow", x, new long[] {4, 4}, new int[] {1, 2});
        Due.is("mode 1: 4 * 3 + 4 * 5", x.objective(false), 32);
        Due.is("mode 1: slopes of supplies must add up to 0", x.setSupply(0, 6, 2), 1);
        Due.is("mode 1: 6 + 4 and -6 - 2", x.solve(2, 1), UNBALANCED);
    }

    /** "For a parameter p / q (as it is given, not reduced)": 2/4 is not 1/2. */
    private static void scaledAsGiven() {
        ParametricFlow x = Nets.solved(Nets.two(), 1, 2);
        potentials("scaled by 2", x, 19, 10);
        Due.is("scaled by 2: reduced cost", x.reducedCost(0), -1);
        limits("scaled by 2", x, null, at(2, 3));
        x.solve(2, 4);
        potentials("scaled by 4", x, 37, 19);
        Due.is("scaled by 4: reduced cost", x.reducedCost(0), -2);
        limits("scaled by 4", x, null, at(2, 3));
        Due.is("scaled by 4: flow", x.flow(1, false), 2);
        Due.is("scaled by 4: its denominator", x.flow(1, true), 1);
        Due.is("scaled by 4: 4 * 4 + 2 * 9/2", x.objective(false), 25);
        Due.is("scaled by 4: its denominator", x.objective(true), 1);
        x.solve(0, 1);
        potentials("not scaled", x, 11, 6);
        x.solve(0, 1000);
        potentials("scaled by 1000", x, 1 + 2 * 5000, 10001 - 5000);
        Due.is("scaled by 1000: reduced cost", x.reducedCost(0), -2000);
    }

    /** "In mode 1 ... flows are scaled by q likewise, and costs are not scaled." */
    private static void scaledBySupplies() {
        ParametricFlow x = Nets.mode(Nets.two(), 1);
        for (int k = 1; k <= 3; k++) {
            String what = "mode 1, scaled by " + 2 * k;
            Due.is(what, x.solve(k, 2 * k), 2);
            potentials(what, x, 11, 6);
            Due.is(what + ": reduced cost", x.reducedCost(0), -2);
            Due.is(what + ": flow 0", x.flow(0, false), 4);
            Due.is(what + ": flow 0, denominator", x.flow(0, true), 1);
            Due.is(what + ": flow 1", x.flow(1, false), 5);
            Due.is(what + ": flow 1, denominator", x.flow(1, true), 2);
            Due.is(what + ": 12 + 25/2", x.objective(false), 49);
            Due.is(what + ": its denominator", x.objective(true), 2);
            limits(what, x, at(-2, 1), at(8, 1));
        }
    }

    /** "If the supplies do not add up to 0, there is no solution (UNBALANCED)." */
    private static void suppliesAddUp() {
        ParametricFlow x = Nets.two();
        x.setSupply(0, 7, 0);
        Due.is("balance: 1 too much", x.solve(0, 1), UNBALANCED);
        x.setSupply(0, 5, 0);
        Due.is("balance: 1 too little", x.solve(0, 1), UNBALANCED);
        x.setSupply(0, 6, 0);
        Due.is("balance: 0", x.solve(0, 1), 2);
        x.setMode(1);
        x.setSupply(0, 5, 2);
        x.setSupply(1, -6, 1);
        Due.is("balance: 5 + 2/3 and -6 + 1/3", x.solve(1, 3), 2);
        Due.is("balance: for 2/6, too", x.solve(2, 6), 2);
        Due.is("balance: not for 333/1000", x.solve(333, 1000), UNBALANCED);
        Due.is("balance: not for -1/3", x.solve(-1, 3), UNBALANCED);
        x = Nets.empty(8);
        x.setSupply(7, 1, 0);
        Due.is("balance: the last node counts", x.solve(0, 1), UNBALANCED);
    }

    // ---- the first tree

    /** "from node i to the root if the supply of i is 0 or more": with 0 nothing can go back from the root. */
    private static void supplyOfNoughtLeadsToTheRoot() {
        ParametricFlow x = Nets.net(new int[] {5, 0, -5}, new int[][] {{0, 1, 5, -1, 0}, {1, 2, 5, -1, 0}});
        pivots("supply 0", x, new int[][] {{1, 101}, {0, 102}});
        potentials("supply 0", x, 4, 5, 6);
        x = Nets.net(new int[] {5, -1, -4}, new int[][] {{0, 1, 5, -1, 0}, {1, 2, 5, -1, 0}});
        pivots("supply -1", x, new int[][] {{0, 101}, {1, 102}});
        x = Nets.mode(Nets.two(), 1);
        Due.is("supply 0 of both for -6", x.solve(-6, 1), 0);
        potentials("supply 0 of both for -6", x, 11, 11);
        Due.is("supply 0 of both for -12/2", x.solve(-12, 2), 0);
        potentials("supply 0 of both for -12/2", x, 11, 11);
    }

    /** "its cost is 1 plus n times the greatest absolute value of the costs of all arcs (1 without arcs)." */
    private static void costOfArtificialArcs() {
        for (int mode = 0; mode < 2; mode++) {
            ParametricFlow x = Nets.solved(Nets.mode(Nets.empty(8), mode), -10000, 1000);
            potentials("cost 1 without arcs, mode " + mode, x, 1, 1, 1, 1, 1, 1, 1, 1);
        }
        ParametricFlow x = Nets.solved(Nets.net(new int[3], new int[][] {{0, 1, 1, 0, 0}}), 7, 3);
        potentials("cost 1 if all costs are 0", x, 1, 1, 1);
        x = Nets.solved(Nets.net(new int[3], new int[][] {{0, 1, 1, 20, -20}, {1, 2, 1, -5, 5}}), 7, 7);
        potentials("cost 1 if all scaled costs are 0", x, 1, 1, 1);
        x = Nets.solved(Nets.net(new int[5], new int[][] {{0, 1, 1, -7, 0}, {2, 3, 1, 6, 0}}), 0, 1);
        potentials("1 + 5 * 7", x, 36 - 7, 36, 36, 36, 36);
        x = Nets.solved(Nets.net(new int[5], new int[][] {{0, 1, 1, -7, 0}, {2, 3, 1, 8, 0}}), 0, 1);
        potentials("1 + 5 * 8", x, 41 - 7, 41, 41, 41, 41);
        x = Nets.solved(Nets.net(new int[8], new int[][] {{0, 1, 1, -100, 20}}), -10000, 1000);
        potentials("1 + 8 * 300000", x, 2100001, 2400001, 2400001, 2400001);
        Due.is("1 + 8 * 300000: the last node", x.potential(7), 2400001);
        x = Nets.solved(Nets.mode(Nets.net(new int[8], new int[][] {{0, 1, 1, -100, 20}}), 1), -10000, 1000);
        potentials("1 + 8 * 100 in mode 1", x, 701, 801, 801);
        x = Nets.solved(Nets.two(), 0, 1);
        Due.is("1 + 2 * 5: of the arc that is not used first", x.potential(0), 11);
    }

    /** "At first, the tree consists of the artificial arcs": it stays so if no arc can enter. */
    private static void firstTree() {
        for (int n = 2; n <= 8; n++) {
            for (int mode = 0; mode < 2; mode++) {
                String what = "no arcs, n = " + n + ", mode " + mode;
                ParametricFlow x = Nets.mode(Nets.empty(n), mode);
                Due.is(what + ": pivots", x.solve(10000, 1000), 0);
                for (int i = 0; i < n; i++) {
                    int[] due = {n, 100 + i, 1, 1};
                    for (int k = 0; k < 4; k++) {
                        Due.is(what + ": tree(" + i + ", " + k + ")", x.tree(i, k), due[k]);
                    }
                    Due.is(what + ": preorder", x.preorder(1 + i), i);
                }
                Due.is(what + ": the root", x.preorder(0), n);
                Due.is(what + ": no further node", x.preorder(n + 1), NONE);
                Due.is(what + ": objective", x.objective(false), 0);
                Due.is(what + ": objective, denominator", x.objective(true), 1);
                limits(what, x, null, null);
            }
        }
        ParametricFlow x = Nets.empty(2);
        x.setSupply(0, 1, 0);
        x.setSupply(1, -1, 0);
        Due.is("no arcs, but supplies", x.solve(0, 1), INFEASIBLE);
    }

    /** "If an artificial arc has a flow above 0 then, there is no solution (INFEASIBLE)." */
    private static void artificialFlowAtTheEnd() {
        int[][] arcs = {{0, 1, 9, 1, 0}};
        Due.is("artificial arcs with flow 0 may stay", Nets.net(new int[] {1, -1, 0}, arcs).solve(0, 1), 1);
        Due.is("but not one with 1, from the root", Nets.net(new int[] {1, 0, -1}, arcs).solve(0, 1), INFEASIBLE);
        Due.is("nor one with 1, to the root", Nets.net(new int[] {0, -1, 1}, arcs).solve(0, 1), INFEASIBLE);
        Due.is("nor one with 1 of 10", Nets.net(new int[] {10, -10, 0}, arcs).solve(0, 1), INFEASIBLE);
        ParametricFlow x = Nets.mode(Nets.empty(2), 1);
        x.setSupply(0, 0, 1);
        x.setSupply(1, 0, -1);
        Due.is("nor one with 1/1000", x.solve(1, 1000), INFEASIBLE);
        Due.is("nor one with 1/1000, the other way", x.solve(-1, 1000), INFEASIBLE);
        Due.is("0 may", x.solve(0, 1000), 0);
    }

    // ---- pivots

    /** "at the lower bound with a reduced cost below 0, or at the upper bound with one above 0": not with 0. */
    private static void reducedCostOfNought() {
        ParametricFlow x = Nets.parallel(3, 0, new int[][] {{5, 2, 0}, {5, 2, 0}});
        pivots("0 at the lower bound", x, new int[][] {{0, 101}});
        flowsAndBounds("0 at the lower bound", x, new long[] {3, 0}, new int[] {2, 0});
        Due.is("0 at the lower bound: reduced cost", x.reducedCost(1), 0);
        x = Nets.parallel(3, 0, new int[][] {{2, 2, 0}, {5, 2, 0}});
        pivots("0 at the upper bound", x, new int[][] {{0, 0}, {1, 101}});
        flowsAndBounds("0 at the upper bound", x, new long[] {2, 1}, new int[] {1, 2});
        Due.is("0 at the upper bound: reduced cost", x.reducedCost(0), 0);
        x = Nets.parallel(0, 0, new int[][] {{5, 0, 0}});
        pivots("0 in the first tree", x, new int[0][]);
        Due.is("0 in the first tree: bound", x.bound(0), 0);
        // With -1 node 0 hangs from node 1 by the arc, in the tree with nothing on it.
        x = Nets.parallel(0, 0, new int[][] {{5, -1, 0}});
        pivots("-1 in the first tree", x, new int[][] {{0, 100}});
        Due.is("-1 in the first tree: bound", x.bound(0), 2);
        x = Nets.parallel(0, 0, new int[][] {{5, 1, 0}});
        pivots("1 in the first tree", x, new int[0][]);
    }

    /** "the one with the lowest number of several" */
    private static void lowestNumberOfSeveral() {
        ParametricFlow x = Nets.parallel(6, 0, new int[][] {{2, 3, 0}, {2, 2, 0}, {2, 2, 0}, {2, 2, 0}});
        pivots("lowest number", x, new int[][] {{1, 1}, {2, 2}, {3, 101}});
        // Arc 1 is at the upper bound with 2, arc 2 at the lower one with -2.
        x = Nets.net(new int[] {-3, 1, 2},
                new int[][] {{2, 0, 4, -2, 0}, {1, 0, 1, -3, 0}, {2, 1, 2, 1, 0}, {1, 2, 1, -3, 0}});
        pivots("lowest number, upper bound", x, new int[][] {{1, 1}, {0, 100}, {3, 101}, {1, 3}});
        flowsAndBounds("lowest number, upper bound", x, new long[] {3, 0, 0, 1}, new int[] {2, 2, 0, 1});
        potentials("lowest number, upper bound", x, 12, 9, 10);
        // Arc 0 is at the lower bound with -1, arc 2 at the upper one with 1.
        x = Nets.net(new int[] {-5, 4, 1},
                new int[][] {{0, 2, 4, -1, 0}, {1, 2, 4, -3, 0}, {1, 0, 4, -2, 0}, {2, 0, 4, 0, 0}});
        pivots("lowest number, lower bound", x, new int[][] {{2, 2}, {3, 100}, {1, 101}, {0, 3}});
        flowsAndBounds("lowest number, lower bound", x, new long[] {3, 0, 4, 4}, new int[] {2, 2, 1, 1});
        potentials("lowest number, lower bound", x, 9, 7, 10);
    }

    /** "the one with the greatest absolute value of the reduced cost enters", whatever its bound is. */
    private static void greatestOfBothBounds() {
        ParametricFlow x = Nets.parallel(3, 0, new int[][] {{2, 3, 0}, {2, 2, 0}, {2, 4, 0}});
        pivots("greatest", x, new int[][] {{1, 1}, {0, 101}});
        // Arc 2 is at the upper bound with 2, arc 3 at the lower one with -1.
        x = Nets.net(new int[] {-6, 4, 2},
                new int[][] {{2, 0, 4, 2, 0}, {1, 2, 3, -3, 0}, {1, 0, 4, 1, 0}, {0, 2, 3, -3, 0}});
        pivots("greatest, upper bound", x, new int[][] {{2, 2}, {0, 100}, {1, 101}, {2, 0}});
        flowsAndBounds("greatest, upper bound", x, new long[] {4, 2, 2, 0}, new int[] {1, 2, 2, 0});
        // Arc 1 is at the lower bound with -9, arc 2 at the upper one with 3.
        x = Nets.net(new int[] {4, -3, -1},
                new int[][] {{2, 1, 4, -3, 0}, {1, 0, 4, -3, 0}, {0, 1, 2, -3, 0}, {0, 2, 2, -3, 0}});
        pivots("greatest, lower bound", x, new int[][] {{2, 2}, {3, 102}, {0, 101}, {1, 3}});
        flowsAndBounds("greatest, lower bound", x, new long[] {1, 0, 2, 2}, new int[] {2, 2, 1, 1});
        potentials("greatest, lower bound", x, 10, 7, 4);
    }

    /** "Its direction is that of the arc if it is at the lower bound, otherwise the opposite one." */
    private static void againstTheDirection() {
        // Arc 1 enters from its upper bound; node 0 is the apex, and arc 0 is full already.
        ParametricFlow x = Nets.net(new int[] {3, -1, -2},
                new int[][] {{0, 1, 2, 1, 0}, {0, 2, 1, 0, 0}, {1, 2, 3, -2, 0}});
        pivots("against its direction", x, new int[][] {{1, 1}, {0, 101}, {2, 102}, {1, 0}});
        flowsAndBounds("against its direction", x, new long[] {2, 1, 1}, new int[] {1, 2, 2});
        potentials("against its direction", x, 7, 5, 7);
        preorder("against its direction", x, 3, 0, 2, 1);
        Due.is("against its direction: 2 * 1 + 1 * 0 + 1 * -2", x.objective(false), 0);
    }

    /** "All flows along the cycle change by the least one of these amounts (perhaps 0)." */
    private static void changeOfNought() {
        ParametricFlow x = Nets.net(new int[] {0, 0}, new int[][] {{0, 1, 9, -1, 0}, {1, 0, 9, -1, 0}});
        // Arc 0 enters with a change of 0; then the way from node 1 is arc 1 and behind it arc 0, with room for 9.
        pivots("a change of 0", x, new int[][] {{0, 100}, {1, 0}});
        flowsAndBounds("a change of 0", x, new long[] {9, 9}, new int[] {1, 2});
        Due.is("a change of 0: then one of 9", x.objective(false), -18);
        x = Nets.row(8);
        pivots("six changes of 0", x, new int[][] {{6, 106}, {5, 105}, {4, 104}, {3, 103}, {2, 102}, {1, 101},
            {0, 107}});
    }

    /** "The arc that leaves is the last one on this way for which it is the least one." */
    private static void lastOfSeveral() {
        // The entering arc and one ahead of it have room for 2, the one behind it for 3.
        ParametricFlow x = Nets.net(new int[] {2, -3, 1}, new int[][] {{0, 1, 2, 0, 0}, {2, 1, 5, 1, 0}});
        pivots("last: the entering one", x, new int[][] {{0, 0}, {1, 101}});
        flowsAndBounds("last: the entering one", x, new long[] {2, 1}, new int[] {1, 2});
        // 2 ahead of the entering arc, on it, and behind it.
        x = Nets.parallel(2, 0, new int[][] {{2, 1, 0}});
        pivots("last: behind the entering one", x, new int[][] {{0, 101}});
        flowsAndBounds("last: behind the entering one", x, new long[] {2}, new int[] {2});
        // Ahead of arc 1 there are arcs 100 and 0 with room for 3, and behind it arc 102 with 4.
        x = Nets.net(new int[] {5, -2, -4, 1}, new int[][] {{0, 1, 5, 0, 0}, {1, 2, 9, 1, 0}, {3, 2, 9, 2, 0}});
        pivots("last: of two ahead", x, new int[][] {{0, 101}, {1, 0}, {2, 102}});
        flowsAndBounds("last: of two ahead", x, new long[] {5, 3, 1}, new int[] {1, 2, 2});
        potentials("last: of two ahead", x, 9, 8, 7, 9);
        // Behind arc 1 there are arcs 0 and 102 with room for 3, and ahead of it arc 100 with 4.
        x = Nets.net(new int[] {4, 0, -3, -1}, new int[][] {{1, 2, 3, 0, 0}, {0, 1, 9, 1, 0}, {0, 3, 9, 1, 0}});
        pivots("last: of two behind", x, new int[][] {{0, 101}, {1, 102}, {2, 103}});
        flowsAndBounds("last: of two behind", x, new long[] {3, 3, 1}, new int[] {2, 2, 2});
        potentials("last: of two behind", x, 5, 4, 4, 4);
    }

    /** "(It can be the entering one, which is at its other bound then.)" */
    private static void enteringOneLeaves() {
        // Arc 0 goes to its upper bound at once, and back to the lower one at the end.
        ParametricFlow x = Nets.net(new int[] {-2, 1, 1},
                new int[][] {{2, 0, 1, 1, 0}, {2, 1, 4, -2, 0}, {0, 1, 4, 4, 0}, {1, 0, 2, 1, 0}});
        pivots("the entering one", x, new int[][] {{0, 0}, {3, 100}, {1, 102}, {0, 0}});
        flowsAndBounds("the entering one", x, new long[] {0, 1, 0, 2}, new int[] {0, 2, 0, 2});
        potentials("the entering one", x, 12, 13, 11);
        x = Nets.parallel(6, 0, new int[][] {{4, 3, 0}, {10, 5, 0}});
        pivots("the entering one, to its upper bound", x, new int[][] {{0, 0}, {1, 101}});
        flowsAndBounds("the entering one, to its upper bound", x, new long[] {4, 2}, new int[] {1, 2});
    }

    /** "if it is an artificial arc, it is at the lower bound, and never enters again": 101 would, with -3. */
    private static void artificialNeverEntersAgain() {
        ParametricFlow x = Nets.net(new int[] {1, 0, -1}, new int[][] {{0, 1, 5, -3, 0}, {1, 2, 5, 1, 0}});
        pivots("never again", x, new int[][] {{1, 101}, {0, 102}});
        potentials("never again", x, 10, 13, 12);
    }

    // ---- trees

    /** "its depth is the number of arcs of this way": up to 8, in both orders of the nodes. */
    private static void deepTree() {
        ParametricFlow x = Nets.empty(8);
        for (int i = 7; i > 0; i--) {
            x.addArc(i, i - 1, 5, 1, 0);
        }
        x.setSupply(7, 5, 0);
        x.setSupply(0, -5, 0);
        x.solve(0, 1);
        for (int i = 0; i < 8; i++) {
            int[] due = {i + 1, i == 7 ? 107 : 6 - i, 8 - i, i + 1};
            for (int what = 0; what < 4; what++) {
                Due.is("deep tree: tree(" + i + ", " + what + ")", x.tree(i, what), due[what]);
            }
        }
        preorder("deep tree", x, 8, 7, 6, 5, 4, 3, 2, 1, 0);
        potentials("deep tree", x, 2, 3, 4, 5, 6, 7, 8, 9);
    }

    /** Nodes 1 to 7 take 1 each: the tree grows from node 0, so that at last nearly the whole way is ahead. */
    private static void growingTree() {
        int[][] arcs = new int[7][];
        for (int i = 0; i < 7; i++) {
            arcs[i] = new int[] {i, i + 1, 9, 1, 0};
        }
        ParametricFlow x = Nets.net(new int[] {7, -1, -1, -1, -1, -1, -1, -1}, arcs);
        pivots("growing tree", x, new int[][] {{0, 101}, {1, 102}, {2, 103}, {3, 104}, {4, 105}, {5, 106},
            {6, 107}});
        preorder("growing tree", x, 8, 0, 1, 2, 3, 4, 5, 6, 7);
        potentials("growing tree", x, 9, 8, 7, 6, 5, 4, 3, 2);
        for (int i = 0; i < 8; i++) {
            Due.is("growing tree: depth of " + i, x.tree(i, 2), i + 1);
            Due.is("growing tree: flow of " + i, x.flow(i, false), i < 7 ? 7 - i : NO_VALUE);
        }
    }

    /** Seven nodes below node 3, by arcs in descending order. */
    private static void wideTree() {
        ParametricFlow x = Nets.empty(8);
        for (int i = 7; i >= 0; i--) {
            if (i != 3) {
                x.addArc(3, i, 1, 1, 0);
            }
            x.setSupply(i, i == 3 ? 7 : -1, 0);
        }
        Due.is("wide tree: pivots", x.solve(0, 1), 7);
        for (int i = 0; i < 8; i++) {
            int[] due = i == 3 ? new int[] {8, 103, 1, 8} : new int[] {3, i > 3 ? 7 - i : 6 - i, 2, 1};
            for (int what = 0; what < 4; what++) {
                Due.is("wide tree: tree(" + i + ", " + what + ")", x.tree(i, what), due[what]);
            }
        }
        preorder("wide tree", x, 8, 3, 0, 1, 2, 4, 5, 6, 7);
    }

    /** "behind each node, its children follow in ascending order, each with all that is below it." */
    private static void orderOfChildren() {
        ParametricFlow x = Nets.net(new int[] {-1, 0, -1, 0, 0, 4, -1, -1},
                new int[][] {{5, 6, 9, 1, 0}, {5, 2, 9, 1, 0}, {2, 7, 9, 1, 0}, {2, 0, 9, 1, 0}});
        pivots("children", x, new int[][] {{0, 106}, {1, 102}, {2, 107}, {3, 100}});
        preorder("children", x, 8, 1, 3, 4, 5, 2, 0, 7, 6);
        int[][] due = {{2, 3, 3, 1}, {8, 101, 1, 1}, {5, 1, 2, 3}, {8, 103, 1, 1}, {8, 104, 1, 1}, {8, 105, 1, 5},
            {5, 0, 2, 1}, {2, 2, 3, 1}};
        for (int i = 0; i < 8; i++) {
            for (int what = 0; what < 4; what++) {
                Due.is("children: tree(" + i + ", " + what + ")", x.tree(i, what), due[i][what]);
            }
        }
        potentials("children", x, 7, 9, 8, 9, 9, 9, 8, 7);
    }

    // ---- the range of a tree

    /** "an interval, perhaps without an end on one side or both" */
    private static void noEndInCosts() {
        limits("no end: the arc is in the tree", Nets.solved(Nets.parallel(3, 0, new int[][] {{5, 1, 20}}), 0, 1),
                null, null);
        limits("no end: no slopes", Nets.solved(Nets.row(8), 3, 7), null, null);
        limits("no end: the same slope",
                Nets.solved(Nets.parallel(3, 0, new int[][] {{5, 1, 20}, {5, 2, 20}}), -7, 3), null, null);
        limits("no end: slopes of supplies in mode 0", Nets.solved(Nets.parallel(3, 20, new int[][] {{5, 1, 0}}), 0, 1),
                null, null);
        limits("no end: slopes of costs in mode 1",
                Nets.solved(Nets.mode(Nets.parallel(3, 0, new int[][] {{5, 1, 20}, {2, 5, -20}}), 1), 0, 1),
                null, null);
    }

    private static void oneEndInCosts() {
        ParametricFlow x = Nets.solved(Nets.two(), -10000, 1);
        limits("no lower end: arc 0 is full, at most 0", x, null, at(2, 3));
        x.solve(10000, 1);
        limits("no upper end: arc 0 is empty, at least 0", x, at(2, 3), null);
        // For 2/3 itself the arc with the lower number enters and is full, with a reduced cost of 0.
        x.solve(2, 3);
        flowsAndBounds("at the end itself", x, new long[] {4, 2}, new int[] {1, 2});
        Due.is("at the end itself: reduced cost", x.reducedCost(0), 0);
        limits("at the end itself", x, null, at(2, 3));
        x = Nets.solved(Nets.crowd(), 0, 1);
        limits("no upper end, 20 arcs", x, at(-10, 1), null);
        x = Nets.solved(Nets.parallel(1, 0, new int[][] {{1, 0, 1}, {1, 0, 0}}), -1, 1);
        limits("an upper end of 0", x, null, at(0, 1));
        x.solve(1, 1000);
        limits("a lower end of 0", x, at(0, 1), null);
        x = Nets.solved(Nets.parallel(1, 0, new int[][] {{1, 1, 2}, {1, 0, 0}}), -1, 1);
        limits("an upper end below 0", x, null, at(-1, 2));
        x.solve(0, 1);
        limits("a lower end below 0", x, at(-1, 2), null);
    }

    /** Of several conditions the one that is met first counts. */
    private static void bothEndsInCosts() {
        int[][] lines = {{1, 0, 9}, {1, 2, 3}, {1, 4, -1}, {1, 10, -10}};
        ParametricFlow x = Nets.solved(Nets.parallel(1, 0, lines), 0, 1);
        limits("both ends: 9x", x, null, at(1, 3));
        x.solve(2, 5);
        limits("both ends: 2 + 3x", x, at(1, 3), at(1, 2));
        x.solve(300, 500);
        limits("both ends: 4 - x", x, at(1, 2), at(2, 3));
        x.solve(1, 1);
        limits("both ends: 10 - 10x", x, at(2, 3), null);
        limits("both ends: four", Nets.solved(Nets.four(), 0, 1), at(-1, 1), at(2, 3));
        limits("both ends: four for another parameter", Nets.solved(Nets.four(), -10, 20), at(-1, 1), at(2, 3));
    }

    /** The condition that is met first may be that of any arc, wherever it is in the tree. */
    private static void nearestOfSeveral() {
        // The reduced costs are 1 + 3x and 2 + 5x, then 1 - 3x and 2 - 5x.
        int[][] arcs = {{5, 5, 0}, {5, 6, 3}, {5, 7, 5}, {5, 6, -3}, {5, 7, -5}};
        limits("nearest", Nets.solved(Nets.parallel(3, 0, arcs), 0, 1), at(-1, 3), at(1, 3));
        int[][] turned = {arcs[4], arcs[3], arcs[2], arcs[1], arcs[0]};
        limits("nearest, turned", Nets.solved(Nets.parallel(3, 0, turned), 0, 1), at(-1, 3), at(1, 3));
        limits("nearest, scaled", Nets.solved(Nets.parallel(3, 0, turned), 0, 7), at(-1, 3), at(1, 3));
        limits("nearest, for 1/5", Nets.solved(Nets.parallel(3, 0, arcs), 1, 5), at(-1, 3), at(1, 3));
        // The same at the upper bound: -1 + 3x and -2 + 5x, then -1 - 3x and -2 - 5x.
        int[][] full = {{1, 4, 3}, {1, 3, 5}, {1, 4, -3}, {1, 3, -5}, {5, 5, 0}};
        limits("nearest, upper bounds", Nets.solved(Nets.parallel(5, 0, full), 0, 1), at(-1, 3), at(1, 3));
        int[][] fullTurned = {full[3], full[2], full[1], full[0], full[4]};
        limits("nearest, upper bounds, turned", Nets.solved(Nets.parallel(5, 0, fullTurned), 0, 1), at(-1, 3),
                at(1, 3));
        // Arc 2 lies beside arc 1, behind arc 0 with its slope.
        int[][] behind = {{0, 1, 5, 1, 3}, {1, 2, 5, 1, 0}, {1, 2, 5, 2, 1}};
        limits("nearest, down the tree", Nets.solved(Nets.net(new int[] {2, 0, -2}, behind), 0, 1), at(-1, 1), null);
        // Back from node 2: 3 + 2x to node 0, 2 - 3x to node 1.
        int[][] fromBelow = {{0, 1, 5, 1, 3}, {1, 2, 5, 1, 4}, {2, 0, 5, 1, -5}, {2, 1, 5, 1, -7}};
        limits("nearest, from below", Nets.solved(Nets.net(new int[] {2, 0, -2}, fromBelow), 0, 1), at(-3, 2),
                at(2, 3));
        ParametricFlow x = Nets.mode(Nets.parallel(3, 2, new int[][] {{5, 1, 0}}), 1);
        x.solve(-1, 1);
        limits("nearest in mode 1: 3 + 2x from 0 to 5", x, at(-3, 2), at(1, 1));
        x.setArc(0, 0, 4);
        x.solve(0, 9);
        limits("nearest in mode 1: 3 + 2x from 0 to 4", x, at(-3, 2), at(1, 2));
    }

    /** Conditions that are met with 0, and would not be on one side and on the other. */
    private static void oneParameterAlone() {
        ParametricFlow x = Nets.parallel(3, 0, new int[][] {{5, 2, 0}, {5, 1, 2}, {5, 3, -2}});
        x.solve(3, 6);
        flowsAndBounds("one parameter", x, new long[] {3, 0, 0}, new int[] {2, 0, 0});
        limits("one parameter", x, at(1, 2), at(1, 2));
        x = Nets.parallel(3, 0, new int[][] {{5, 2, 0}, {5, 2, 2}, {5, 2, -2}});
        x.solve(0, 7);
        limits("one parameter, 0", x, at(0, 1), at(0, 1));
        x = Nets.parallel(3, 0, new int[][] {{5, 2, 0}, {5, 3, 2}, {5, 1, -2}});
        x.solve(-2, 4);
        limits("one parameter below 0", x, at(-1, 2), at(-1, 2));
        x = Nets.parallel(3, 0, new int[][] {{1, 2, 2}, {1, 2, -2}, {5, 2, 0}});
        x.solve(0, 1);
        flowsAndBounds("one parameter, upper bounds", x, new long[] {1, 1, 1}, new int[] {1, 1, 2});
        limits("one parameter, upper bounds", x, at(0, 1), at(0, 1));
    }

    /** "in mode 1 all flows of arcs of the tree are from 0 to their capacities" */
    private static void endsInSupplies() {
        ParametricFlow x = Nets.solved(Nets.mode(Nets.two(), 1), -3, 1);
        limits("mode 1: arc 0 from 0 to 4", x, at(-6, 1), at(-2, 1));
        x.solve(-2, 1);
        flowsAndBounds("mode 1: arc 0 with 4", x, new long[] {4, 0}, new int[] {2, 0});
        limits("mode 1: arc 0 with 4", x, at(-6, 1), at(-2, 1));
        x.solve(-1999, 1000);
        limits("mode 1: arc 1 from 0 to 10", x, at(-2, 1), at(8, 1));
        x.solve(8, 1);
        limits("mode 1: arc 1 with 10", x, at(-2, 1), at(8, 1));
        x = Nets.mode(Nets.parallel(1, 3, new int[][] {{3, 1, 0}}), 1);
        x.solve(0, 1);
        limits("mode 1: 1 + 3x from 0 to 3", x, at(-1, 3), at(2, 3));
        x = Nets.mode(Nets.parallel(1, -3, new int[][] {{3, 1, 0}}), 1);
        x.solve(100, 1000);
        limits("mode 1: 1 - 3x from 0 to 3", x, at(-2, 3), at(1, 3));
        x = Nets.mode(Nets.parallel(0, 20, new int[][] {{1000, 1, 0}}), 1);
        x.solve(1, 1);
        limits("mode 1: 20x from 0 to 1000", x, at(0, 1), at(50, 1));
        x = Nets.mode(Nets.row(8), 1);
        x.setSupply(3, 0, 1);
        x.setSupply(4, 0, -1);
        x.setArc(3, 0, 7);
        x.solve(0, 1);
        limits("mode 1: arc 3 with 5 + x from 0 to 7, the others full", x, at(-5, 1), at(2, 1));
    }

    /** "(artificial arcs: 0)": the tree is optimal for this parameter alone if one would get a flow beside it. */
    private static void artificialArcsStayEmpty() {
        ParametricFlow x = Nets.solved(Nets.mode(Nets.two(), 1), -6, 1);
        Due.is("artificial arcs: two of them", x.tree(0, 1) + x.tree(1, 1), 201);
        limits("artificial arcs", x, at(-6, 1), at(-6, 1));
        x.solve(-24, 4);
        limits("artificial arcs, scaled", x, at(-6, 1), at(-6, 1));
        x = Nets.mode(Nets.empty(2), 1);
        x.setSupply(0, 1, 2);
        x.setSupply(1, -1, -2);
        x.solve(-2, 4);
        limits("artificial arcs, no arcs", x, at(-1, 2), at(-1, 2));
        x = Nets.mode(Nets.parallel(1, 0, new int[][] {{2, 1, 0}}), 1);
        x.setSupply(0, 1, 1);
        x.solve(0, 5);
        limits("artificial arcs, unbalanced elsewhere", x, at(0, 1), at(0, 1));
    }

    // ---- fractions

    /** "in lowest terms with a denominator above 0", of 0 and of numbers below 0 as well. */
    private static void fractionsOfSolutions() {
        ParametricFlow x = Nets.two();
        long[][] due = {{-11, 3, 0, 1}, {5, 1, 0, 1}, {-15, 4, -1, 2}, {-400, 100, -2, 1}, {21, 4, -3, 2},
            {0, 1000, 22, 1}, {-1, 7, 148, 7}, {500, 1000, 25, 1}, {667, 1000, 12999, 500}};
        for (long[] d : due) {
            x.solve((int) d[0], (int) d[1]);
            Due.is("objective for " + d[0] + " / " + d[1], x.objective(false), d[2]);
            Due.is("its denominator", x.objective(true), d[3]);
        }
        x.setMode(1);
        long[][] flows = {{-6, 1, 0, 1, 0, 1}, {-12, 2, 0, 1, 0, 1}, {-10, 4, 7, 2, 0, 1},
            {-5999, 1000, 1, 1000, 0, 1},
            {-2, 1, 4, 1, 0, 1}, {0, 1000, 4, 1, 2, 1}, {1, 1000, 4, 1, 2001, 1000}, {500, 1000, 4, 1, 5, 2},
            {8, 1, 4, 1, 10, 1}};
        for (long[] f : flows) {
            x.solve((int) f[0], (int) f[1]);
            for (int a = 0; a < 2; a++) {
                Due.is("flow " + a + " for " + f[0] + " / " + f[1], x.flow(a, false), f[2 + 2 * a]);
                Due.is("its denominator", x.flow(a, true), f[3 + 2 * a]);
            }
        }
        x = Nets.mode(Nets.parallel(3, 1, new int[][] {{9, -7, 0}}), 1);
        x.solve(-4, 6);
        Due.is("objective -7 * 7/3", x.objective(false), -49);
        Due.is("its denominator", x.objective(true), 3);
        Due.is("flow 7/3", x.flow(0, false), 7);
        Due.is("its denominator", x.flow(0, true), 3);
        Due.is("reduced costs are no fractions", x.reducedCost(0), 0);
    }
}
