import java.math.BigInteger;
import java.util.ArrayList;
import java.util.List;

/** Long runs of calls, right and wrong ones, on an object and on the oracle side by side. */
public final class OracleTests {
    private static final int CALLS = 512;

    /** Networks with very many pivots (first and last) and breakpoints (the two between), found by a search. */
    private static final int[][][] LARGE_ARCS = {
        {{5, 2, 861, 31, -2}, {3, 7, 1, -29, -3}, {3, 0, 459, -78, -18}, {4, 1, 1, 88, 18}, {2, 3, 718, -100, -19},
            {1, 0, 53, 48, 20}, {4, 0, 313, -66, -19}, {5, 1, 142, -85, -14}, {6, 1, 420, 11, -19},
            {3, 5, 418, -38, 0}, {0, 6, 807, -100, 5}, {7, 1, 24, 97, -3}, {7, 0, 389, -29, 20}, {1, 2, 55, 25, -15},
            {2, 4, 304, -99, -8}, {4, 7, 629, -4, -12}, {3, 7, 1, -25, 13}, {6, 5, 870, -85, -7}, {7, 6, 125, 77, 6},
            {1, 2, 451, -21, -17}},
        {{4, 2, 884, -64, -5}, {5, 7, 997, 22, -20}, {5, 3, 653, 15, 15}, {0, 5, 905, 75, -5}, {1, 0, 41, -96, 10},
            {2, 1, 299, -27, -4}, {2, 1, 483, 13, 4}, {0, 2, 161, 46, -3}, {3, 6, 277, -84, -11},
            {3, 1, 701, -21, -10}, {0, 7, 792, -95, 7}, {4, 7, 119, 7, 18}, {2, 5, 830, -54, 2},
            {7, 0, 679, -62, -15}, {6, 5, 1000, 35, 8}, {7, 2, 802, 74, -5}, {3, 7, 912, 93, 20}, {6, 7, 129, 7, -3},
            {1, 0, 427, 34, 14}, {1, 4, 887, -45, 3}},
        {{5, 0, 635, 4, 2}, {7, 4, 82, 58, -9}, {0, 7, 463, -8, -20}, {3, 6, 815, 36, -20}, {6, 5, 727, 99, 6},
            {4, 5, 510, -24, 20}, {6, 2, 346, 12, -2}, {1, 5, 532, -23, 16}, {3, 7, 694, 62, 20}, {3, 4, 22, -12, 4},
            {7, 2, 1, 62, 18}, {6, 4, 294, 98, -11}, {2, 1, 710, -31, 3}, {4, 0, 103, -31, 11},
            {6, 3, 852, -77, -17}, {7, 1, 25, 45, -8}, {5, 2, 805, 38, -7}, {3, 4, 316, 89, 9}, {3, 7, 564, 8, 12},
            {1, 3, 280, 78, -19}},
        {{5, 0, 53, -69, -9}, {0, 6, 313, -100, 9}, {2, 0, 527, -79, 20}, {5, 0, 1, -23, -7}, {7, 3, 499, -2, -19},
            {5, 3, 493, -9, -11}, {1, 3, 46, 7, -11}, {4, 6, 941, -6, -16}, {5, 3, 338, -31, 2},
            {3, 7, 595, -10, 20}, {5, 7, 160, -23, 2}, {3, 0, 155, -21, 0}, {1, 4, 822, -40, 16},
            {5, 6, 692, -95, -16}, {6, 2, 791, -92, -19}, {2, 5, 797, -82, -13}, {4, 0, 172, 3, 5},
            {0, 4, 473, -90, 1}, {7, 0, 158, -9, -2}, {6, 5, 522, -75, 15}},
    };
    private static final int[][][] LARGE_SUPPLIES = {
        {{-80, 3}, {35, -14}, {54, -17}, {-86, 17}, {373, 7}, {-416, 7}, {107, 10}, {13, -13}},
        {{375, 11}, {-100, 2}, {-81, 7}, {298, -20}, {24, 6}, {-233, 3}, {1, -19}, {-284, 10}},
        {{-1, 0}, {-178, 1}, {10, 1}, {-24, -4}, {-32, 0}, {153, 0}, {72, -1}, {0, 3}},
        {{-203, -16}, {425, 4}, {484, -10}, {-226, 13}, {-319, -5}, {-43, 6}, {-2, 1}, {-116, 7}},
    };

    private long seed;
    private String run;
    private ParametricFlow x;
    private Oracle model;
    private Oracle.Solution kept;
    private int style;

    public static void main(String[] args) {
        int runs = args.length > 0 ? Integer.parseInt(args[0]) : 150;
        for (int r = 0; r < runs; r++) {
            new OracleTests().play(r);
        }
        for (int k = 0; k < LARGE_ARCS.length; k++) {
            new OracleTests().playLarge(k);
        }
        Due.end("OracleTests");
    }

    /** Rows of pivots and of pieces grow here beyond what they are made with. */
    private void playLarge(int k) {
        run = "large network " + k + ": ";
        x = new ParametricFlow();
        model = new Oracle();
        reset(8);
        for (int[] a : LARGE_ARCS[k]) {
            model.arcs.add(a);
            x.addArc(a[0], a[1], a[2], a[3], a[4]);
        }
        for (int i = 0; i < 8; i++) {
            setSupply(i, LARGE_SUPPLIES[k][i][0], LARGE_SUPPLIES[k][i][1]);
        }
        for (int mode = 0; mode < 2; mode++) {
            setMode(mode);
            kept = model.solve(0, 1);
            int pivots = kept.pivots.size();
            Due.is(run + "solve(0, 1)", x.solve(0, 1), pivots);
            Due.holds(run + "many pivots", k != 3 * mode || pivots > 50);
            for (int j = 0; j <= pivots; j++) {
                askPivot(j, false);
                askPivot(j, true);
            }
            int low = 0;
            int high = 0;
            while (low > -1000 && x.problem(low - 1, 1) == ParametricFlow.NONE) {
                low--;
            }
            while (high < 1000 && x.problem(high + 1, 1) == ParametricFlow.NONE) {
                high++;
            }
            int count = x.breakpoints(low, high);
            Due.holds(run + "many breakpoints", k != mode + 1 || count > 60);
            if (low < high) {
                checkPieces(run + "mode " + mode, low, high, count + 1);
            }
        }
    }

    private int pick(int least, int greatest) {
        seed = seed * 6364136223846793005L + 1442695040888963407L;
        return least + (int) ((seed >>> 33) % (greatest - least + 1));
    }

    private boolean oneIn(int n) {
        return pick(1, n) == 1;
    }

    private void play(int number) {
        seed = 977L * number + 13;
        x = new ParametricFlow();
        model = new Oracle();
        kept = null;
        style = number % 4;
        for (int call = 0; call < CALLS; call++) {
            run = "run " + number + ", call " + call + ": ";
            if (call % 128 == 0) {
                call += build();
            }
            int kind = pick(0, 99);
            if (kind < 8) {
                change();
            } else if (kind < 22) {
                solve();
            } else if (kind < 70) {
                askSolution();
            } else if (kind < 80) {
                askValue();
            } else if (kind < 86) {
                askCurve();
            } else {
                askNetwork();
            }
        }
    }

    // ---- changes

    private int build() {
        int n = pick(2, 8);
        reset(n);
        int m = oneIn(4) ? pick(0, 6) : pick(n + 2, 21);
        boolean ring = !oneIn(4);
        for (int a = 0; a < m; a++) {
            int from = ring && a < n ? a : pick(0, n - 1);
            addArc(from, ring && a < n ? (a + 1) % n : pick(0, n - 1));
        }
        for (int i = 0; i < n; i++) {
            moveSupply(style == 1 ? 1 : style == 3 ? 60 : 5);
        }
        if (oneIn(12)) {
            setSupply(pick(0, n - 1), pick(-9, 9), pick(-1, 1));
        }
        if (oneIn(2)) {
            setMode(1);
        }
        return m + n + 3;
    }

    private void reset(int n) {
        int due = ParametricFlow.BAD_VALUE;
        if (n >= 2 && n <= 8) {
            due = model.nodes;
            model.reset(n);
            kept = null;
        }
        Due.is(run + "reset(" + n + ")", x.reset(n), due);
    }

    private void addArc(int from, int to) {
        int cap = style == 1 ? pick(1, 3) : style == 3 ? pick(1, 1000) : pick(1, 60);
        int cost = style == 1 ? pick(-2, 2) : style == 2 ? pick(0, 100) : pick(-30, 100);
        int slope = style == 1 ? pick(-1, 1) : pick(-20, 20);
        if (oneIn(60)) {
            cap = pick(0, 1) * 1001;
        }
        if (oneIn(60)) {
            cost = oneIn(2) ? 101 : -101;
        }
        if (oneIn(60)) {
            slope = oneIn(2) ? 21 : -21;
        }
        boolean known = from >= 0 && from < model.nodes && to >= 0 && to < model.nodes;
        boolean good = from != to && cap >= 1 && cap <= 1000 && cost >= -100 && cost <= 100 && slope >= -20
                && slope <= 20;
        int due = !known ? ParametricFlow.UNKNOWN : !good ? ParametricFlow.BAD_VALUE
                : model.arcs.size() >= 20 ? ParametricFlow.FULL : model.arcs.size();
        if (due >= 0) {
            model.arcs.add(new int[] {from, to, cap, cost, slope});
            kept = null;
        }
        Due.is(run + "addArc(" + from + ", " + to + ", " + cap + ", " + cost + ", " + slope + ")",
                x.addArc(from, to, cap, cost, slope), due);
    }

    private void setSupply(int node, int supply, int slope) {
        int due = ParametricFlow.UNKNOWN;
        if (node >= 0 && node < model.nodes) {
            due = ParametricFlow.BAD_VALUE;
            if (Math.abs(supply) <= 500 && Math.abs(slope) <= 20) {
                due = model.supply[node] != supply || model.supplySlope[node] != slope ? 1 : 0;
                model.supply[node] = supply;
                model.supplySlope[node] = slope;
                kept = null;
            }
        }
        Due.is(run + "setSupply(" + node + ", " + supply + ", " + slope + ")", x.setSupply(node, supply, slope), due);
    }

    private void setMode(int mode) {
        int due = ParametricFlow.BAD_VALUE;
        if (mode == 0 || mode == 1) {
            due = model.mode;
            model.mode = mode;
            kept = null;
        }
        Due.is(run + "setMode(" + mode + ")", x.setMode(mode), due);
    }

    private void removeArc() {
        int due = ParametricFlow.NONE;
        if (!model.arcs.isEmpty()) {
            model.arcs.remove(model.arcs.size() - 1);
            due = model.arcs.size();
            kept = null;
        }
        Due.is(run + "removeArc()", x.removeArc(), due);
    }

    private void setArc(int arc, int what, int value) {
        int due = ParametricFlow.UNKNOWN;
        if (arc >= 0 && arc < model.arcs.size()) {
            boolean good = what == 0 && value >= 1 && value <= 1000 || what == 1 && Math.abs(value) <= 100
                    || what == 2 && Math.abs(value) <= 20;
            due = ParametricFlow.BAD_VALUE;
            if (good) {
                due = model.arcs.get(arc)[what + 2];
                model.arcs.get(arc)[what + 2] = value;
                kept = null;
            }
        }
        Due.is(run + "setArc(" + arc + ", " + what + ", " + value + ")", x.setArc(arc, what, value), due);
    }

    private void change() {
        switch (pick(0, 9)) {
            case 0: addArc(pick(-1, model.nodes), pick(-1, model.nodes)); break;
            case 1: removeArc(); break;
            case 2:
            case 3:
            case 4:
                setArc(pick(-1, model.arcs.size()), pick(-1, 3), oneIn(3) ? pick(-1002, 1002) : pick(-22, 102));
                break;
            case 5: setMode(pick(-1, 2)); break;
            case 6: reset(oneIn(2) ? 1 : 9); break;
            case 7:
                if (oneIn(3)) {
                    setSupply(pick(-1, model.nodes), pick(-502, 502), pick(-22, 22));
                }
                break;
            default: moveSupply(5); break;
        }
    }

    /** Keeps the sums, so that there is still something to solve. */
    private void moveSupply(int most) {
        int i = pick(0, model.nodes - 1);
        int j = pick(0, model.nodes - 1);
        int amount = pick(-most, most);
        int slope = pick(-2, 2);
        setSupply(i, model.supply[i] + amount, model.supplySlope[i] + slope);
        setSupply(j, model.supply[j] - amount, model.supplySlope[j] - slope);
    }

    // ---- questions

    private int someP() {
        return oneIn(15) ? (oneIn(2) ? 10001 : -10001) : oneIn(10) ? pick(-10000, 10000) : pick(-20, 20);
    }

    private int someQ() {
        return oneIn(15) ? pick(0, 1) * 1001 : oneIn(10) ? pick(1, 1000) : pick(1, 12);
    }

    private static boolean goodParameter(int p, int q) {
        return Math.abs(p) <= 10000 && q >= 1 && q <= 1000;
    }

    private void solve() {
        int p = someP();
        int q = someQ();
        int due = ParametricFlow.BAD_VALUE;
        if (goodParameter(p, q)) {
            due = ParametricFlow.UNBALANCED;
            if (model.balanced(p, q)) {
                Oracle.Solution s = model.solve(p, q);
                due = s == null ? ParametricFlow.INFEASIBLE : s.pivots.size();
                kept = s == null ? kept : s;
            }
        }
        Due.is(run + "solve(" + p + ", " + q + ")", x.solve(p, q), due);
    }

    private void askSolution() {
        int arc = pick(-1, model.arcs.size());
        int node = pick(-1, model.nodes);
        boolean den = oneIn(2);
        switch (pick(0, 8)) {
            case 0: askPivot(pick(-1, kept == null ? 1 : kept.pivots.size()), oneIn(2)); break;
            case 1: Due.is(run + "objective", x.objective(den), objectiveDue(den)); break;
            case 2: Due.is(run + "flow " + arc, x.flow(arc, den), flowDue(arc, den)); break;
            case 3: Due.is(run + "reducedCost " + arc, x.reducedCost(arc), kept == null || !hasArc(arc)
                    ? ParametricFlow.NO_VALUE : model.reducedCost(kept, arc)); break;
            case 4: Due.is(run + "potential " + node, x.potential(node), kept == null || !hasNode(node)
                    ? ParametricFlow.NO_VALUE : kept.potential[node]); break;
            case 5: Due.is(run + "bound " + arc, x.bound(arc), !hasArc(arc) ? ParametricFlow.UNKNOWN
                    : kept == null ? ParametricFlow.NO_SOLUTION : kept.bound[arc]); break;
            case 6: askTree(node, pick(-1, 4)); break;
            case 7: askPreorder(pick(-1, model.nodes + 1)); break;
            default: askLimit(oneIn(2), den); break;
        }
    }

    private boolean hasArc(int arc) {
        return arc >= 0 && arc < model.arcs.size();
    }

    private boolean hasNode(int node) {
        return node >= 0 && node < model.nodes;
    }

    private void askPivot(int k, boolean leaving) {
        int due = kept == null ? ParametricFlow.NO_SOLUTION : k < 0 ? ParametricFlow.BAD_VALUE
                : k >= kept.pivots.size() ? ParametricFlow.NONE : kept.pivots.get(k)[leaving ? 1 : 0];
        Due.is(run + "pivot(" + k + ", " + leaving + ")", x.pivot(k, leaving), due);
    }

    private static long part(BigInteger top, long bottom, boolean den) {
        return Oracle.fraction(top, BigInteger.valueOf(bottom))[den ? 1 : 0].longValueExact();
    }

    private long objectiveDue(boolean den) {
        if (kept == null) {
            return ParametricFlow.NO_VALUE;
        }
        long sum = 0;
        for (int a = 0; a < model.arcs.size(); a++) {
            sum += kept.flow[a] * kept.cost[a];
        }
        Due.holds(run + "the oracle agrees with itself",
                BigInteger.valueOf(sum).equals(model.optimum(kept.p, kept.q)));
        return part(BigInteger.valueOf(sum), kept.q, den);
    }

    private long flowDue(int arc, boolean den) {
        if (kept == null || !hasArc(arc)) {
            return ParametricFlow.NO_VALUE;
        }
        return part(BigInteger.valueOf(kept.flow[arc]), kept.mode == 1 ? kept.q : 1, den);
    }

    private int otherEnd(int name, int node) {
        return model.from(kept, name) == node ? model.to(kept, name) : model.from(kept, name);
    }

    private void askTree(int node, int what) {
        int due = !hasNode(node) ? ParametricFlow.UNKNOWN : kept == null ? ParametricFlow.NO_SOLUTION
                : what < 0 || what > 3 ? ParametricFlow.BAD_VALUE : treeDue(node, what);
        Due.is(run + "tree(" + node + ", " + what + ")", x.tree(node, what), due);
    }

    private int treeDue(int node, int what) {
        List<Integer> way = model.way(kept, node);
        int link = way.get(way.size() - 1);
        if (what == 0) {
            return otherEnd(link, node);
        }
        if (what == 1) {
            return link;
        }
        if (what == 2) {
            return way.size();
        }
        int below = 0;
        for (int i = 0; i < model.nodes; i++) {
            below += model.way(kept, i).contains(link) ? 1 : 0;
        }
        return below;
    }

    private void askPreorder(int k) {
        int due = ParametricFlow.NO_SOLUTION;
        if (kept != null) {
            List<Integer> order = new ArrayList<>();
            list(model.nodes, order);
            due = k < 0 ? ParametricFlow.BAD_VALUE : k >= order.size() ? ParametricFlow.NONE : order.get(k);
        }
        Due.is(run + "preorder(" + k + ")", x.preorder(k), due);
    }

    private void list(int node, List<Integer> order) {
        order.add(node);
        for (int i = 0; i < model.nodes; i++) {
            if (i != node && treeDue(i, 0) == node) {
                list(i, order);
            }
        }
    }

    private void askLimit(boolean upper, boolean den) {
        long due = ParametricFlow.NO_VALUE;
        if (kept != null) {
            BigInteger[] end = model.range(kept)[upper ? 1 : 0];
            due = end == null ? due : end[den ? 1 : 0].longValueExact();
        }
        Due.is(run + "limit(" + upper + ", " + den + ")", x.limit(upper, den), due);
    }

    private void askValue() {
        int p = someP();
        int q = someQ();
        boolean den = oneIn(2);
        int problem = ParametricFlow.BAD_VALUE;
        long value = ParametricFlow.NO_VALUE;
        if (goodParameter(p, q)) {
            problem = ParametricFlow.UNBALANCED;
            if (model.balanced(p, q)) {
                BigInteger v = model.optimum(p, q);
                problem = v == null ? ParametricFlow.INFEASIBLE : ParametricFlow.NONE;
                value = v == null ? value : part(v, q, den);
            }
        }
        Due.is(run + "problem(" + p + ", " + q + ")", x.problem(p, q), problem);
        Due.is(run + "value(" + p + ", " + q + ", " + den + ")", x.value(p, q, den), value);
    }

    private void askCurve() {
        boolean narrow = model.mode == 1;
        int low = oneIn(12) ? pick(-1002, 1002) : narrow ? pick(-8, 4) : pick(-30, 20);
        int high = oneIn(12) ? pick(-1002, 1002) : low + pick(0, narrow ? 9 : 40);
        int count = x.breakpoints(low, high);
        String call = run + "breakpoints(" + low + ", " + high + ")";
        int error = 0;
        if (low < -1000 || low > 1000 || high <= low || high > 1000) {
            error = ParametricFlow.BAD_VALUE;
        } else if (!model.balanced(low, 1) || !model.balanced(high, 1)) {
            error = ParametricFlow.UNBALANCED;
        } else if (model.optimum(low, 1) == null || model.optimum(high, 1) == null) {
            error = ParametricFlow.INFEASIBLE;
        }
        int pieces = error == 0 ? count + 1 : 0;
        Due.is(call, count, error == 0 ? Math.max(count, 0) : error);
        for (int k : new int[] {-1, Math.max(0, pieces - 1), pieces}) {
            Due.holds(call + " breakpoint " + k, (x.breakpoint(low, high, k, true) != ParametricFlow.NO_VALUE)
                    == (k >= 0 && k < pieces - 1));
            Due.holds(call + " slope " + k, (x.slope(low, high, k) != ParametricFlow.NO_VALUE)
                    == (k >= 0 && k < pieces));
        }
        if (pieces > 0) {
            checkPieces(call, low, high, pieces);
        }
    }

    /** Chords with slopes that go one way, each with a point between on it: the function must have these pieces. */
    private void checkPieces(String call, int low, int high, int pieces) {
        BigInteger[] left = Oracle.fraction(BigInteger.valueOf(low), BigInteger.ONE);
        for (int k = 0; k < pieces; k++) {
            BigInteger[] right = Oracle.fraction(BigInteger.valueOf(high), BigInteger.ONE);
            if (k < pieces - 1) {
                BigInteger top = BigInteger.valueOf(x.breakpoint(low, high, k, false));
                BigInteger bottom = BigInteger.valueOf(x.breakpoint(low, high, k, true));
                right = Oracle.fraction(top, bottom);
                Due.holds(call + " in lowest terms", right[0].equals(top) && right[1].equals(bottom));
            }
            Due.holds(call + " ascends", Oracle.compare(left, right) < 0);
            long slope = x.slope(low, high, k);
            if (k > 0) {
                long before = x.slope(low, high, k - 1);
                Due.holds(call + " slope changes", model.mode == 0 ? slope < before : slope > before);
            }
            BigInteger[] middle = {left[0].add(right[0]), left[1].add(right[1])};
            checkChord(call + " piece " + k, left, right, slope);
            checkChord(call + " first part of piece " + k, left, middle, slope);
            left = right;
        }
    }

    private void checkChord(String call, BigInteger[] from, BigInteger[] to, long slope) {
        BigInteger[] rise = subtract(valueAt(to), valueAt(from));
        BigInteger[] run = subtract(to, from);
        BigInteger[] due = Oracle.fraction(run[0].multiply(BigInteger.valueOf(slope)), run[1]);
        Due.holds(call, Oracle.compare(rise, due) == 0);
    }

    private BigInteger[] valueAt(BigInteger[] at) {
        BigInteger v = model.optimum(at[0].longValueExact(), at[1].longValueExact());
        return Oracle.fraction(v, at[1]);
    }

    private static BigInteger[] subtract(BigInteger[] a, BigInteger[] b) {
        return Oracle.fraction(a[0].multiply(b[1]).subtract(b[0].multiply(a[1])), a[1].multiply(b[1]));
    }

    private void askNetwork() {
        if (oneIn(2)) {
            int arc = pick(-1, model.arcs.size());
            int what = pick(-1, 5);
            int due = !hasArc(arc) ? ParametricFlow.UNKNOWN : what < 0 || what > 4 ? ParametricFlow.BAD_VALUE
                    : model.arcs.get(arc)[what];
            Due.is(run + "arc(" + arc + ", " + what + ")", x.arc(arc, what), due);
            return;
        }
        int what = pick(-1, 6);
        int sum = 0;
        int slopes = 0;
        for (int i = 0; i < model.nodes; i++) {
            sum += model.supply[i];
            slopes += model.supplySlope[i];
        }
        int[] due = {model.nodes, model.arcs.size(), model.mode, sum, slopes, kept == null ? 0 : 1};
        Due.is(run + "network(" + what + ")", x.network(what),
                what < 0 || what > 5 ? ParametricFlow.BAD_VALUE : due[what]);
    }
}
