/**
 * The range of each argument, promise by promise: the least and the greatest value, the ones beside them, and the ends
 * of int. Each question goes to an object of its own, or to one that has been asked only what changes nothing.
 */
public final class RangeTests {
    private static final int UNKNOWN = -10001;
    private static final int BAD_VALUE = -10002;
    private static final int FULL = -10006;
    private static final int NONE = -10007;
    private static final long NO_VALUE = Long.MIN_VALUE;
    private static final int LEAST = Integer.MIN_VALUE;
    private static final int GREATEST = Integer.MAX_VALUE;

    private interface Call {
        long of(int argument);
    }

    private RangeTests() {
    }

    public static void main(String[] args) {
        newObject();
        reset();
        nodesOfArcs();
        propertiesOfArcs();
        twentyArcs();
        arcsGoOneByOne();
        arcNumbers();
        setArc();
        setSupply();
        setMode();
        arc();
        network();
        parameters();
        parametersOfValues();
        pivot();
        arcsOfSolution();
        nodesOfSolution();
        tree();
        preorder();
        intervals();
        pieces();
        Due.end("RangeTests");
    }

    /** Both ends are right, the values beside them and the ends of int are wrong. */
    private static void range(String what, int least, int greatest, Call call, Call right, long wrong) {
        for (int v : new int[] {least, greatest}) {
            Due.is(what + " " + v, call.of(v), right.of(v));
        }
        for (int v : new int[] {least - 1, greatest + 1, LEAST, GREATEST}) {
            Due.is(what + " " + v, call.of(v), wrong);
        }
    }

    /** Both ends and the values beside them, when the number has no greatest value that is an error. */
    private static void counted(String what, int count, Call call, Call right, long below, long behind) {
        Due.is(what + " 0", call.of(0), count > 0 ? right.of(0) : behind);
        Due.is(what + " " + (count - 1), call.of(count - 1), count > 0 ? right.of(count - 1) : below);
        Due.is(what + " -1", call.of(-1), below);
        Due.is(what + " the least int", call.of(LEAST), below);
        Due.is(what + " " + count, call.of(count), behind);
        Due.is(what + " the greatest int", call.of(GREATEST), behind);
    }

    // ---- network

    private static void newObject() {
        ParametricFlow x = new ParametricFlow();
        int[] due = {2, 0, 0, 0, 0, 0};
        for (int what = 0; what < due.length; what++) {
            Due.is("1: network(" + what + ")", x.network(what), due[what]);
        }
        Due.is("1: no arc 0", x.arc(0, 0), UNKNOWN);
        Due.is("1: node 0 has no supply and no slope of it", x.setSupply(0, 0, 0), 0);
        Due.is("1: node 1 has no supply and no slope of it", x.setSupply(1, 0, 0), 0);
        Due.is("1: there is no node 2", x.setSupply(2, 0, 0), UNKNOWN);
        Due.is("1: the mode was 0", x.setMode(0), 0);
        Due.is("1: there were 2 nodes", x.reset(2), 2);
    }

    private static void reset() {
        range("2: nodes", 2, 8, v -> new ParametricFlow().reset(v), v -> 2, BAD_VALUE);
        range("2: nodes then, after", 2, 8, v -> {
            ParametricFlow x = Nets.empty(5);
            x.reset(v);
            return x.network(0);
        }, v -> v, 5);
        for (int n = 2; n <= 8; n++) {
            ParametricFlow x = Nets.empty(n);
            Due.is("2: the last node of " + n, x.setSupply(n - 1, 1, 1), 1);
            Due.is("2: no further node of " + n, x.setSupply(n, 1, 1), UNKNOWN);
            Due.is("2: the previous number " + n, x.reset(10 - n), n);
            Due.is("2: and then", x.network(0), 10 - n);
        }
        ParametricFlow x = Nets.mode(Nets.crowd(), 1);
        for (int i = 0; i < 8; i++) {
            x.setSupply(i, 500 - i, 20 - i);
        }
        Due.is("2: reset(8) of a full network", x.reset(8), 8);
        for (int i = 0; i < 8; i++) {
            Due.is("2: supply and slope 0 of node " + i, x.setSupply(i, 0, 0), 0);
        }
        Due.is("2: no arcs", x.network(1), 0);
        Due.is("2: mode 0", x.network(2), 0);
        Due.is("2: arcs are numbered from 0 again", x.addArc(7, 0, 1, 0, 0), 0);
    }

    private static void nodesOfArcs() {
        for (int n : new int[] {2, 8}) {
            range("3: from, n = " + n, 0, n - 1, v -> Nets.empty(n).addArc(v, v == 0 ? 1 : 0, 1, 0, 0), v -> 0,
                    UNKNOWN);
            range("3: to, n = " + n, 0, n - 1, v -> Nets.empty(n).addArc(v == 0 ? 1 : 0, v, 1, 0, 0), v -> 0,
                    UNKNOWN);
            range("3: both are the same, n = " + n, 0, n - 1, v -> Nets.empty(n).addArc(v, v, 1, 0, 0),
                    v -> BAD_VALUE, UNKNOWN);
        }
    }

    private static void propertiesOfArcs() {
        range("3: capacity", 1, 1000, v -> new ParametricFlow().addArc(0, 1, v, 0, 0), v -> 0, BAD_VALUE);
        range("3: cost", -100, 100, v -> new ParametricFlow().addArc(0, 1, 1, v, 0), v -> 0, BAD_VALUE);
        range("3: slope", -20, 20, v -> new ParametricFlow().addArc(0, 1, 1, 0, v), v -> 0, BAD_VALUE);
        range("3: capacity kept", 1, 1000, v -> propertyAfterAdding(2, v, 0, 0), v -> v, UNKNOWN);
        range("3: cost kept", -100, 100, v -> propertyAfterAdding(3, 1, v, 0), v -> v, UNKNOWN);
        range("3: slope kept", -20, 20, v -> propertyAfterAdding(4, 1, 0, v), v -> v, UNKNOWN);
    }

    private static long propertyAfterAdding(int what, int capacity, int cost, int slope) {
        ParametricFlow x = new ParametricFlow();
        x.addArc(0, 1, capacity, cost, slope);
        return x.arc(0, what);
    }

    private static void twentyArcs() {
        ParametricFlow x = new ParametricFlow();
        for (int k = 0; k < 20; k++) {
            Due.is("3: arc " + k + " of 20", x.addArc(k % 2, 1 - k % 2, 1 + k, k, -k), k);
        }
        Due.is("3: FULL if there are 20 arcs", x.addArc(0, 1, 1, 0, 0), FULL);
        Due.is("3: still 20", x.network(1), 20);
        Due.is("4: 19 then", x.removeArc(), 19);
        Due.is("3: the 20th has room again", x.addArc(1, 0, 777, 0, 0), 19);
        Due.is("3: and its own capacity", x.arc(19, 2), 777);
        Due.is("3: FULL again", x.addArc(0, 1, 1, 0, 0), FULL);
    }

    private static void arcsGoOneByOne() {
        ParametricFlow x = Nets.crowd();
        for (int left = 19; left >= 0; left--) {
            Due.is("4: " + left + " arcs then", x.removeArc(), left);
            Due.is("4: network(1)", x.network(1), left);
            Due.is("4: arc " + left + " is gone", x.arc(left, 2), UNKNOWN);
        }
        Due.is("4: NONE if there is no arc", x.removeArc(), NONE);
        Due.is("4: and NONE again", x.removeArc(), NONE);
        Due.is("4: still 0", x.network(1), 0);
        Due.is("4: none of a new object", new ParametricFlow().removeArc(), NONE);
    }

    /** Every call that takes an arc, with 0, 1, 2 and 20 arcs. */
    private static void arcNumbers() {
        ParametricFlow none = Nets.solved(new ParametricFlow(), 0, 1);
        for (int v : new int[] {-1, 0, 19, 20, 100, 101, LEAST, GREATEST}) {
            Due.is("5: no arcs, setArc " + v, none.setArc(v, 0, 1), UNKNOWN);
            Due.is("8: no arcs, arc " + v, none.arc(v, 0), UNKNOWN);
            Due.is("13: no arcs, flow " + v, none.flow(v, false), NO_VALUE);
            Due.is("14: no arcs, reducedCost " + v, none.reducedCost(v), NO_VALUE);
            Due.is("16: no arcs, bound " + v, none.bound(v), UNKNOWN);
        }
        range("5: one arc, arc", 0, 0, v -> Nets.row(2).setArc(v, 0, 9), v -> 5, UNKNOWN);
        range("8: one arc, arc", 0, 0, v -> Nets.row(2).arc(v, 1), v -> 1, UNKNOWN);
        range("5: two arcs, arc", 0, 1, v -> Nets.two().setArc(v, 0, 9), v -> v == 0 ? 4 : 10, UNKNOWN);
        range("8: two arcs, arc", 0, 1, v -> Nets.two().arc(v, 2), v -> v == 0 ? 4 : 10, UNKNOWN);
        range("5: 20 arcs, arc", 0, 19, v -> Nets.crowd().setArc(v, 0, 9), v -> v == 0 ? 1 : 1000, UNKNOWN);
        range("8: 20 arcs, arc", 0, 19, v -> Nets.crowd().arc(v, 2), v -> v == 0 ? 1 : 1000, UNKNOWN);
    }

    private static void setArc() {
        range("5: what", 0, 2, v -> Nets.two().setArc(1, v, 7), v -> v == 0 ? 10 : -1, BAD_VALUE);
        int[] least = {1, -100, -20};
        int[] greatest = {1000, 100, 20};
        int[] before = {4, 3, 2};
        for (int what = 0; what < 3; what++) {
            int w = what;
            range("5: value of " + w, least[w], greatest[w], v -> Nets.two().setArc(0, w, v), v -> before[w],
                    BAD_VALUE);
            range("5: value of " + w + " then, after", least[w], greatest[w], v -> {
                ParametricFlow x = Nets.two();
                x.setArc(0, w, v);
                return x.arc(0, w + 2);
            }, v -> v, before[w]);
        }
        Due.is("5: a value between the ranges: no capacity", Nets.two().setArc(0, 0, -5), BAD_VALUE);
        Due.is("5: a value between the ranges: no cost", Nets.two().setArc(0, 1, 500), BAD_VALUE);
        Due.is("5: a value between the ranges: no slope", Nets.two().setArc(0, 2, 50), BAD_VALUE);
        Due.is("5: the same value again", Nets.two().setArc(0, 0, 4), 4);
    }

    private static void setSupply() {
        for (int n : new int[] {2, 8}) {
            range("6: node, n = " + n, 0, n - 1, v -> Nets.empty(n).setSupply(v, 1, 0), v -> 1, UNKNOWN);
        }
        range("6: supply", -500, 500, v -> new ParametricFlow().setSupply(0, v, 0), v -> 1, BAD_VALUE);
        range("6: slope", -20, 20, v -> new ParametricFlow().setSupply(1, 0, v), v -> 1, BAD_VALUE);
        range("6: supply kept", -500, 500, v -> sumAfterSupply(3, v, 0), v -> v, 0);
        range("6: slope kept", -20, 20, v -> sumAfterSupply(4, 0, v), v -> v, 0);
        range("6: the same supply again", -500, 500, v -> supplyTwice(v, 3), v -> 0, BAD_VALUE);
        range("6: the same slope again", -20, 20, v -> supplyTwice(3, v), v -> 0, BAD_VALUE);
        Due.is("6: 0 and 0 is no change at first", new ParametricFlow().setSupply(0, 0, 0), 0);
    }

    private static long sumAfterSupply(int what, int supply, int slope) {
        ParametricFlow x = new ParametricFlow();
        x.setSupply(1, supply, slope);
        return x.network(what);
    }

    private static long supplyTwice(int supply, int slope) {
        ParametricFlow x = new ParametricFlow();
        x.setSupply(0, supply, slope);
        return x.setSupply(0, supply, slope);
    }

    private static void setMode() {
        range("7: mode", 0, 1, v -> new ParametricFlow().setMode(v), v -> 0, BAD_VALUE);
        range("7: mode, from 1", 0, 1, v -> Nets.mode(new ParametricFlow(), 1).setMode(v), v -> 1, BAD_VALUE);
        range("7: mode then, after", 0, 1, v -> Nets.mode(new ParametricFlow(), v).network(2), v -> v, 0);
        range("7: mode then, from 1, after", 0, 1, v -> Nets.mode(Nets.mode(new ParametricFlow(), 1), v).network(2),
                v -> v, 1);
    }

    private static void arc() {
        range("8: what", 0, 4, v -> Nets.two().arc(0, v), v -> v == 0 ? 0 : 2, BAD_VALUE);
        range("8: what, arc 19 of 20", 0, 4, v -> Nets.crowd().arc(19, v), v -> v == 0 ? 0 : -20, BAD_VALUE);
    }

    private static void network() {
        range("9: what", 0, 5, v -> Nets.four().network(v), v -> v == 0 ? 4 : 0, BAD_VALUE);
        range("9: what, with a solution", 0, 5, v -> Nets.solved(Nets.four(), 0, 1).network(v), v -> v == 0 ? 4 : 1,
                BAD_VALUE);
        ParametricFlow x = Nets.empty(8);
        for (int i = 0; i < 8; i++) {
            x.setSupply(i, 500, -20);
        }
        Due.is("9: the greatest sum of supplies", x.network(3), 4000);
        Due.is("9: the least sum of slopes", x.network(4), -160);
    }

    // ---- solution

    private static void parameters() {
        range("10: p", -10000, 10000, v -> Nets.two().solve(v, 1), v -> v < 0 ? 2 : 1, BAD_VALUE);
        range("10: q", 1, 1000, v -> Nets.two().solve(1, v), v -> v == 1 ? 1 : 2, BAD_VALUE);
        range("10: p with q = 1000", -10000, 10000, v -> Nets.two().solve(v, 1000), v -> v < 0 ? 2 : 1, BAD_VALUE);
        range("12: numerator for p", -10000, 10000, v -> {
            ParametricFlow x = Nets.two();
            x.solve(v, 1);
            return x.objective(false);
        }, v -> v < 0 ? -59978 : -59970, NO_VALUE);
        Due.is("10: q = -1", Nets.two().solve(0, -1), BAD_VALUE);
        long[][] due = {{10000, 1000, -30, 1}, {-10000, 1000, -38, 1}, {9999, 1000, -14997, 500},
            {-9999, 1000, -18997, 500}, {1, 1000, 11003, 500}, {-1, 1000, 10997, 500}, {0, 1000, 22, 1}};
        for (long[] d : due) {
            ParametricFlow x = Nets.solved(Nets.two(), (int) d[0], (int) d[1]);
            Due.is("12: numerator for " + d[0] + " / " + d[1], x.objective(false), d[2]);
            Due.is("12: denominator for " + d[0] + " / " + d[1], x.objective(true), d[3]);
        }
    }

    private static void parametersOfValues() {
        for (boolean den : new boolean[] {false, true}) {
            range("20: p", -10000, 10000, v -> Nets.two().value(v, 1, den),
                    v -> den ? 1 : v < 0 ? -59978 : -59970, NO_VALUE);
            range("20: q", 1, 1000, v -> Nets.two().value(1, v, den),
                    v -> v == 1 ? (den ? 1 : 24) : den ? 500 : 11003, NO_VALUE);
            range("20: p with q = 1000", -10000, 10000, v -> Nets.two().value(v, 1000, den),
                    v -> den ? 1 : v < 0 ? -38 : -30, NO_VALUE);
        }
        range("21: p", -10000, 10000, v -> Nets.two().problem(v, 1), v -> NONE, BAD_VALUE);
        range("21: q", 1, 1000, v -> Nets.two().problem(1, v), v -> NONE, BAD_VALUE);
        Due.is("20: q = -1", Nets.two().value(0, -1, false), NO_VALUE);
        Due.is("21: q = -1", Nets.two().problem(0, -1), BAD_VALUE);
        // In mode 1, 10000 / 1000 is 10: beyond the 8 for which there is room, and -10 below the -6.
        Due.is("21: p = 10000, q = 1000 in mode 1", Nets.mode(Nets.two(), 1).problem(10000, 1000), -10004);
        Due.is("21: p = -10000, q = 1000 in mode 1", Nets.mode(Nets.two(), 1).problem(-10000, 1000), -10004);
    }

    private static void pivot() {
        int[][] due = {{4, 102}, {2, 101}, {0, 2}, {1, 1}, {3, 103}};
        ParametricFlow x = Nets.solved(Nets.four(), 0, 1);
        for (int k = 0; k < 5; k++) {
            Due.is("11: enters in pivot " + k, x.pivot(k, false), due[k][0]);
            Due.is("11: leaves in pivot " + k, x.pivot(k, true), due[k][1]);
        }
        counted("11: four, entering", 5, k -> x.pivot(k, false), k -> due[k][0], BAD_VALUE, NONE);
        counted("11: four, leaving", 5, k -> x.pivot(k, true), k -> due[k][1], BAD_VALUE, NONE);
        ParametricFlow none = Nets.solved(new ParametricFlow(), 0, 1);
        counted("11: no pivots, entering", 0, k -> none.pivot(k, false), k -> 0, BAD_VALUE, NONE);
        counted("11: no pivots, leaving", 0, k -> none.pivot(k, true), k -> 0, BAD_VALUE, NONE);
        ParametricFlow one = Nets.solved(Nets.crowd(), 0, 1);
        counted("11: one pivot, entering", 1, k -> one.pivot(k, false), k -> 19, BAD_VALUE, NONE);
        counted("11: one pivot, leaving", 1, k -> one.pivot(k, true), k -> 101, BAD_VALUE, NONE);
        ParametricFlow fewer = Nets.four();
        fewer.solve(0, 1);
        fewer.reset(2);
        fewer.solve(0, 1);
        Due.is("11: pivots of an earlier solution are gone", fewer.pivot(0, false), NONE);
    }

    private static void arcsOfSolution() {
        ParametricFlow two = Nets.solved(Nets.two(), 0, 1);
        range("13: two arcs", 0, 1, v -> two.flow(v, false), v -> v == 0 ? 4 : 2, NO_VALUE);
        range("13: two arcs, denominator", 0, 1, v -> two.flow(v, true), v -> 1, NO_VALUE);
        range("14: two arcs", 0, 1, two::reducedCost, v -> v == 0 ? -2 : 0, NO_VALUE);
        range("16: two arcs", 0, 1, two::bound, v -> v == 0 ? 1 : 2, UNKNOWN);
        ParametricFlow crowd = Nets.solved(Nets.crowd(), 0, 1);
        range("13: 20 arcs", 0, 19, v -> crowd.flow(v, false), v -> v == 0 ? 0 : 5, NO_VALUE);
        range("13: 20 arcs, denominator", 0, 19, v -> crowd.flow(v, true), v -> 1, NO_VALUE);
        range("14: 20 arcs", 0, 19, crowd::reducedCost, v -> v == 0 ? 200 : 0, NO_VALUE);
        range("16: 20 arcs", 0, 19, crowd::bound, v -> v == 0 ? 0 : 2, UNKNOWN);
        for (int i = 0; i <= 8; i++) {
            Due.is("13: no arc " + (100 + i), crowd.flow(100 + i, false), NO_VALUE);
            Due.is("14: no arc " + (100 + i), crowd.reducedCost(100 + i), NO_VALUE);
            Due.is("16: no arc " + (100 + i), crowd.bound(100 + i), UNKNOWN);
        }
    }

    private static void nodesOfSolution() {
        for (int n : new int[] {2, 8}) {
            ParametricFlow x = Nets.solved(Nets.row(n), 0, 1);
            range("15: node, n = " + n, 0, n - 1, x::potential, v -> 1 + n - v, NO_VALUE);
            range("17: node, n = " + n, 0, n - 1, v -> x.tree(v, 0), v -> v == 0 ? n : v - 1, UNKNOWN);
        }
        ParametricFlow crowd = Nets.solved(Nets.crowd(), 0, 1);
        long[] due = {801, 901, 801, 801, 801, 801, 801, 801};
        for (int i = 0; i < 8; i++) {
            Due.is("15: 20 arcs, node " + i, crowd.potential(i), due[i]);
        }
    }

    private static void tree() {
        for (int n : new int[] {2, 8}) {
            ParametricFlow x = Nets.solved(Nets.row(n), 0, 1);
            range("17: what, the first of " + n, 0, 3, v -> x.tree(0, v), v -> n, BAD_VALUE);
            for (int i = 0; i < n; i++) {
                Due.is("17: parent of " + i + ", n = " + n, x.tree(i, 0), i == 0 ? n : i - 1);
                Due.is("17: arc of " + i + ", n = " + n, x.tree(i, 1), i == 0 ? 100 : i - 1);
                Due.is("17: depth of " + i + ", n = " + n, x.tree(i, 2), i + 1);
                Due.is("17: nodes below " + i + ", n = " + n, x.tree(i, 3), n - i);
            }
        }
        ParametricFlow crowd = Nets.solved(Nets.crowd(), 0, 1);
        int[][] due = {{8, 100, 1, 2}, {0, 19, 2, 1}, {8, 107, 1, 1}};
        int[] nodes = {0, 1, 7};
        for (int k = 0; k < 3; k++) {
            for (int what = 0; what < 4; what++) {
                Due.is("17: 20 arcs, tree(" + nodes[k] + ", " + what + ")", crowd.tree(nodes[k], what), due[k][what]);
            }
        }
    }

    private static void preorder() {
        for (int n : new int[] {2, 8}) {
            ParametricFlow x = Nets.solved(Nets.row(n), 0, 1);
            counted("18: place, n = " + n, n + 1, x::preorder, k -> k == 0 ? n : k - 1, BAD_VALUE, NONE);
            ParametricFlow none = Nets.solved(Nets.empty(n), 0, 1);
            counted("18: place, no arcs, n = " + n, n + 1, none::preorder, k -> k == 0 ? n : k - 1, BAD_VALUE, NONE);
        }
    }

    // ---- value function

    private static void intervals() {
        range("22: low", -1000, 999, v -> Nets.two().breakpoints(v, 1000), v -> v < 0 ? 1 : 0, BAD_VALUE);
        range("22: high", -999, 1000, v -> Nets.two().breakpoints(-1000, v), v -> v < 0 ? 0 : 1, BAD_VALUE);
        range("22: high over 0", 1, 1000, v -> Nets.two().breakpoints(0, v), v -> 1, BAD_VALUE);
        range("22: high over 999", 1000, 1000, v -> Nets.two().breakpoints(999, v), v -> 0, BAD_VALUE);
        range("23: low", -1000, 0, v -> Nets.two().breakpoint(v, 1, 0, false), v -> 2, NO_VALUE);
        range("23: high", 1, 1000, v -> Nets.two().breakpoint(0, v, 0, true), v -> 3, NO_VALUE);
        range("24: low", -1000, 999, v -> Nets.two().slope(v, 1000, 0), v -> v < 0 ? 6 : -6, NO_VALUE);
        range("24: high", -999, 1000, v -> Nets.two().slope(-1000, v, 0), v -> 6, NO_VALUE);
        int[][] bad = {{1000, 1000}, {1000, 1001}, {1000, 999}, {-1001, -1000}, {1001, 1002}, {0, 0}, {0, -1},
            {LEAST, LEAST + 1}, {GREATEST, LEAST}, {LEAST, GREATEST}, {GREATEST, GREATEST}, {-1000, -1000},
            {-1000, LEAST}, {1000, LEAST}};
        for (int[] b : bad) {
            String interval = " of " + b[0] + " to " + b[1];
            Due.is("22: breakpoints" + interval, Nets.two().breakpoints(b[0], b[1]), BAD_VALUE);
            Due.is("23: breakpoint" + interval, Nets.two().breakpoint(b[0], b[1], 0, false), NO_VALUE);
            Due.is("23: breakpoint" + interval + ", denominator", Nets.two().breakpoint(b[0], b[1], 0, true), NO_VALUE);
            Due.is("24: slope" + interval, Nets.two().slope(b[0], b[1], 0), NO_VALUE);
        }
        Due.is("22: the greatest interval", Nets.two().breakpoints(-1000, 1000), 1);
        Due.is("22: the lowest interval", Nets.two().breakpoints(-1000, -999), 0);
        Due.is("22: the highest interval", Nets.two().breakpoints(999, 1000), 0);
        Due.is("24: the lowest interval", Nets.two().slope(-1000, -999, 0), 6);
        Due.is("24: the highest interval", Nets.two().slope(999, 1000, 0), -6);
    }

    /** A third arc for 1 with cost 6, which takes it from arc 1 up to -1: the breakpoints are -1 and 2/3. */
    private static void pieces() {
        ParametricFlow x = Nets.two();
        x.addArc(0, 1, 1, 6, 0);
        long[][] due = {{-1, 1}, {2, 3}};
        long[] slopes = {7, 6, -6};
        counted("23: k, numerator", 2, k -> x.breakpoint(-5, 5, k, false), k -> due[k][0], NO_VALUE, NO_VALUE);
        counted("23: k, denominator", 2, k -> x.breakpoint(-5, 5, k, true), k -> due[k][1], NO_VALUE, NO_VALUE);
        counted("24: k", 3, k -> x.slope(-5, 5, k), k -> slopes[k], NO_VALUE, NO_VALUE);
        Due.is("24: slope between", x.slope(-5, 5, 1), slopes[1]);
        ParametricFlow none = new ParametricFlow();
        counted("23: no breakpoints", 0, k -> none.breakpoint(-5, 5, k, false), k -> 0, NO_VALUE, NO_VALUE);
        counted("23: no breakpoints, denominator", 0, k -> none.breakpoint(-5, 5, k, true), k -> 0, NO_VALUE, NO_VALUE);
        counted("24: one piece", 1, k -> none.slope(-5, 5, k), k -> 0, NO_VALUE, NO_VALUE);
    }
}
