/** Networks small enough to be worked out by hand. */
final class Nets {
    private Nets() {
    }

    /**
     * 6 go from node 0 to node 1, by arc 0 (capacity 4, cost 3 + 2x) or arc 1 (capacity 10, cost 5 - x).
     * Mode 0: the value is 22 + 6x up to 2/3 and 30 - 6x behind it. Mode 1: 3 (6 + x) from -6 to -2, then 22 + 5x to 8.
     */
    static ParametricFlow two() {
        return parallel(6, 1, new int[][] {{4, 3, 2}, {10, 5, -1}});
    }

    /**
     * From node 0 to node 3 in five ways. With x = 0 the pivots are (4, 102), (2, 101), (0, 2), (1, 1) and (3, 103),
     * the flows 5, 5, 3, 2, 8 and 0.
     */
    static ParametricFlow four() {
        ParametricFlow x = new ParametricFlow();
        x.reset(4);
        x.addArc(0, 1, 8, 2, 1);
        x.addArc(0, 2, 5, 4, -1);
        x.addArc(1, 2, 3, 1, 0);
        x.addArc(1, 3, 6, 5, 0);
        x.addArc(2, 3, 9, 2, 1);
        x.addArc(0, 3, 4, 9, -2);
        x.setSupply(0, 10, 1);
        x.setSupply(3, -10, -1);
        return x;
    }

    /** Two nodes, and arcs from node 0 to node 1, each given by its capacity, cost and slope. */
    static ParametricFlow parallel(int supply, int supplySlope, int[][] arcs) {
        ParametricFlow x = new ParametricFlow();
        for (int[] a : arcs) {
            x.addArc(0, 1, a[0], a[1], a[2]);
        }
        x.setSupply(0, supply, supplySlope);
        x.setSupply(1, -supply, -supplySlope);
        return x;
    }

    /** Arcs given by both nodes, capacity, cost and slope. */
    static ParametricFlow net(int[] supply, int[][] arcs) {
        ParametricFlow x = new ParametricFlow();
        x.reset(supply.length);
        for (int[] a : arcs) {
            x.addArc(a[0], a[1], a[2], a[3], a[4]);
        }
        for (int i = 0; i < supply.length; i++) {
            x.setSupply(i, supply[i], 0);
        }
        return x;
    }

    /** Eight nodes and 20 arcs from node 0 to node 1, of which the last one alone is cheap: one pivot, (19, 101). */
    static ParametricFlow crowd() {
        ParametricFlow x = new ParametricFlow();
        x.reset(8);
        for (int k = 0; k < 19; k++) {
            x.addArc(0, 1, 1, 100, 0);
        }
        x.addArc(0, 1, 1000, -100, -20);
        x.setSupply(0, 5, 0);
        x.setSupply(1, -5, 0);
        return x;
    }

    /** n nodes in a row: 5 go from node 0 to node n - 1 by arcs with capacity 5 and cost 1. */
    static ParametricFlow row(int n) {
        ParametricFlow x = new ParametricFlow();
        x.reset(n);
        for (int i = 0; i + 1 < n; i++) {
            x.addArc(i, i + 1, 5, 1, 0);
        }
        x.setSupply(0, 5, 0);
        x.setSupply(n - 1, -5, 0);
        return x;
    }

    static ParametricFlow empty(int nodes) {
        ParametricFlow x = new ParametricFlow();
        x.reset(nodes);
        return x;
    }

    static ParametricFlow mode(ParametricFlow x, int mode) {
        x.setMode(mode);
        return x;
    }

    static ParametricFlow solved(ParametricFlow x, int p, int q) {
        Due.holds("a network of the tests has a solution for " + p + " / " + q, x.solve(p, q) >= 0);
        return x;
    }
}
