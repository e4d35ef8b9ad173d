import java.util.ArrayList;
import java.util.Arrays;

/**
 * Minimum cost flows with a parameter, by the network simplex method with strongly feasible trees.
 *
 * <p>The network is kept as it is given (Network). A Simplex scales it for one parameter and solves it; there are
 * two of them, so that a solve that fails, or the value function, never touches the solution that is kept.
 */
public final class ParametricFlow {
    public static final int UNKNOWN = -10001;
    public static final int BAD_VALUE = -10002;
    public static final int UNBALANCED = -10003;
    public static final int INFEASIBLE = -10004;
    public static final int NO_SOLUTION = -10005;
    public static final int FULL = -10006;
    public static final int NONE = -10007;
    public static final long NO_VALUE = Long.MIN_VALUE;

    private static final int MIN_NODES = 2;
    private static final int MAX_NODES = 8;
    private static final int MAX_ARCS = 20;
    private static final int ALL_ARCS = MAX_ARCS + MAX_NODES;
    private static final int FIRST_ARTIFICIAL = 100;
    private static final int MAX_CAPACITY = 1000;
    private static final int MAX_COST = 100;
    private static final int MAX_SUPPLY = 500;
    private static final int MAX_SLOPE = 20;
    private static final int MAX_NUMERATOR = 10000;
    private static final int MAX_DENOMINATOR = 1000;
    private static final int MAX_END = 1000;

    private static final int COSTS_MODE = 0;
    private static final int SUPPLIES_MODE = 1;

    private static final int LOWER = 0;
    private static final int UPPER = 1;
    private static final int IN_TREE = 2;
    private static final int NO_NODE = -1;

    private static final int SOLVED = 0;
    private static final long NO_LIMIT = 1L << 60;
    private static final int STEP_LIMIT = 1000000;
    private static final int EUCLID_STEPS = 200;
    private static final int FIRST_ROOM = 32;

    private final Network net;
    private final Curve curve;
    private Simplex kept;
    private Simplex work;
    private boolean solved;

    public ParametricFlow() {
        net = new Network();
        curve = new Curve();
        kept = new Simplex();
        work = new Simplex();
    }

    // ---- network

    public int reset(int nodes) {
        if (!isWithin(nodes, MIN_NODES, MAX_NODES)) {
            return BAD_VALUE;
        }
        int previous = net.nodes;
        net.clear(nodes);
        forget();
        return previous;
    }

    public int addArc(int from, int to, int capacity, int cost, int slope) {
        if (!net.hasNode(from) || !net.hasNode(to)) {
            return UNKNOWN;
        }
        if (from == to || !isWithin(capacity, 1, MAX_CAPACITY) || !isWithin(cost, -MAX_COST, MAX_COST)
                || !isWithin(slope, -MAX_SLOPE, MAX_SLOPE)) {
            return BAD_VALUE;
        }
        if (net.arcs >= MAX_ARCS) {
            return FULL;
        }
        int arc = net.arcs;
        net.from[arc] = from;
        net.to[arc] = to;
        net.capacity[arc] = capacity;
        net.cost[arc] = cost;
        net.slope[arc] = slope;
        net.arcs++;
        forget();
        return arc;
    }

    public int removeArc() {
        if (net.arcs == 0) {
            return NONE;
        }
        net.arcs--;
        forget();
        return net.arcs;
    }

    public int setArc(int arc, int what, int value) {
        if (!net.hasArc(arc)) {
            return UNKNOWN;
        }
        int previous;
        if (what == 0 && isWithin(value, 1, MAX_CAPACITY)) {
            previous = net.capacity[arc];
            net.capacity[arc] = value;
        } else if (what == 1 && isWithin(value, -MAX_COST, MAX_COST)) {
            previous = net.cost[arc];
            net.cost[arc] = value;
        } else if (what == 2 && isWithin(value, -MAX_SLOPE, MAX_SLOPE)) {
            previous = net.slope[arc];
            net.slope[arc] = value;
        } else {
            return BAD_VALUE;
        }
        forget();
        return previous;
    }

    public int setSupply(int node, int supply, int slope) {
        if (!net.hasNode(node)) {
            return UNKNOWN;
        }
        if (!isWithin(supply, -MAX_SUPPLY, MAX_SUPPLY) || !isWithin(slope, -MAX_SLOPE, MAX_SLOPE)) {
            return BAD_VALUE;
        }
        boolean same = net.supply[node] == supply && net.supplySlope[node] == slope;
        net.supply[node] = supply;
        net.supplySlope[node] = slope;
        forget();
        return same ? 0 : 1;
    }

    public int setMode(int mode) {
        if (mode != COSTS_MODE && mode != SUPPLIES_MODE) {
            return BAD_VALUE;
        }
        int previous = net.mode;
        net.mode = mode;
        forget();
        return previous;
    }

    public int arc(int arc, int what) {
        if (!net.hasArc(arc)) {
            return UNKNOWN;
        }
        switch (what) {
            case 0: return net.from[arc];
            case 1: return net.to[arc];
            case 2: return net.capacity[arc];
            case 3: return net.cost[arc];
            case 4: return net.slope[arc];
            default: return BAD_VALUE;
        }
    }

    public int network(int what) {
        switch (what) {
            case 0: return net.nodes;
            case 1: return net.arcs;
            case 2: return net.mode;
            case 3: return net.sumOf(net.supply);
            case 4: return net.sumOf(net.supplySlope);
            case 5: return solved ? 1 : 0;
            default: return BAD_VALUE;
        }
    }

    // ---- solution

    public int solve(int p, int q) {
        if (!isParameter(p, q)) {
            return BAD_VALUE;
        }
        int answer = work.run(net, p, q);
        if (answer != SOLVED) {
            return answer;
        }
        work.tree.putInOrder();
        Simplex found = work;
        work = kept;
        kept = found;
        solved = true;
        return kept.entered.size;
    }

    public int pivot(int k, boolean leaving) {
        if (!solved) {
            return NO_SOLUTION;
        }
        if (k < 0) {
            return BAD_VALUE;
        }
        if (k >= kept.entered.size) {
            return NONE;
        }
        return nameOf(leaving ? kept.left.at(k) : kept.entered.at(k));
    }

    public long objective(boolean denominator) {
        return solved ? lowestTerms(kept.arcs.totalCost(), kept.q, denominator) : NO_VALUE;
    }

    public long flow(int arc, boolean denominator) {
        if (!net.hasArc(arc) || !solved) {
            return NO_VALUE;
        }
        return lowestTerms(kept.arcs.flow[arc], kept.mode == SUPPLIES_MODE ? kept.q : 1, denominator);
    }

    public long reducedCost(int arc) {
        return net.hasArc(arc) && solved ? kept.reduced(arc) : NO_VALUE;
    }

    public long potential(int node) {
        return net.hasNode(node) && solved ? kept.tree.potential[node] : NO_VALUE;
    }

    public int bound(int arc) {
        if (!net.hasArc(arc)) {
            return UNKNOWN;
        }
        return solved ? kept.arcs.place[arc] : NO_SOLUTION;
    }

    public int tree(int node, int what) {
        if (!net.hasNode(node)) {
            return UNKNOWN;
        }
        if (!solved) {
            return NO_SOLUTION;
        }
        switch (what) {
            case 0: return kept.tree.parent[node];
            case 1: return nameOf(kept.tree.link[node]);
            case 2: return kept.tree.depth[node];
            case 3: return kept.tree.size[node];
            default: return BAD_VALUE;
        }
    }

    public int preorder(int k) {
        if (!solved) {
            return NO_SOLUTION;
        }
        if (k < 0) {
            return BAD_VALUE;
        }
        return k <= net.nodes ? kept.tree.order[k] : NONE;
    }

    public long limit(boolean upper, boolean denominator) {
        return solved ? kept.end(net, upper, denominator) : NO_VALUE;
    }

    // ---- value function (without change of the solution)

    public long value(int p, int q, boolean denominator) {
        if (!isParameter(p, q) || work.run(net, p, q) != SOLVED) {
            return NO_VALUE;
        }
        return lowestTerms(work.arcs.totalCost(), q, denominator);
    }

    public int problem(int p, int q) {
        if (!isParameter(p, q)) {
            return BAD_VALUE;
        }
        int answer = work.run(net, p, q);
        return answer == SOLVED ? NONE : answer;
    }

    public int breakpoints(int low, int high) {
        if (!isInterval(low, high)) {
            return BAD_VALUE;
        }
        int answer = curve.trace(net, work, low, high);
        return answer == SOLVED ? curve.numerators.size : answer;
    }

    public long breakpoint(int low, int high, int k, boolean denominator) {
        if (!isInterval(low, high) || curve.trace(net, work, low, high) != SOLVED) {
            return NO_VALUE;
        }
        return denominator ? curve.denominators.at(k) : curve.numerators.at(k);
    }

    public long slope(int low, int high, int k) {
        if (!isInterval(low, high) || curve.trace(net, work, low, high) != SOLVED) {
            return NO_VALUE;
        }
        return curve.slopes.at(k);
    }

    // ---- helpers

    /** What was worked out holds for the network as it was, so every change takes it away. */
    private void forget() {
        solved = false;
        curve.known = false;
    }

    private static boolean isWithin(int x, int least, int greatest) {
        return x >= least && x <= greatest;
    }

    private static boolean isParameter(int p, int q) {
        return isWithin(p, -MAX_NUMERATOR, MAX_NUMERATOR) && isWithin(q, 1, MAX_DENOMINATOR);
    }

    private static boolean isInterval(int low, int high) {
        return isWithin(low, -MAX_END, MAX_END) && high > low && high <= MAX_END;
    }

    /** The number by which callers know the arc of a row: artificial arcs have rows behind all others. */
    private static int nameOf(long row) {
        return (int) (row < MAX_ARCS ? row : row - MAX_ARCS + FIRST_ARTIFICIAL);
    }

    private static long lowestTerms(long numerator, long denominator, boolean wantDenominator) {
        long divisor = commonDivisor(numerator, denominator);
        if (divisor == 0) {
            return NO_VALUE;
        }
        return (wantDenominator ? denominator : numerator) / divisor;
    }

    private static long commonDivisor(long x, long y) {
        long a = Math.abs(x);
        long b = Math.abs(y);
        for (int steps = 0; b != 0 && steps < EUCLID_STEPS; steps++) {
            long rest = a % b;
            a = b;
            b = rest;
        }
        return a;
    }

    /** The nodes and arcs as they are given, not scaled. */
    private static final class Network {
        int nodes = MIN_NODES;
        int arcs;
        int mode = COSTS_MODE;
        final int[] supply = new int[MAX_NODES];
        final int[] supplySlope = new int[MAX_NODES];
        final int[] from = new int[MAX_ARCS];
        final int[] to = new int[MAX_ARCS];
        final int[] capacity = new int[MAX_ARCS];
        final int[] cost = new int[MAX_ARCS];
        final int[] slope = new int[MAX_ARCS];

        void clear(int newNodes) {
            nodes = newNodes;
            arcs = 0;
            mode = COSTS_MODE;
            Arrays.fill(supply, 0);
            Arrays.fill(supplySlope, 0);
        }

        boolean hasNode(int node) {
            return node >= 0 && node < nodes;
        }

        boolean hasArc(int arc) {
            return arc >= 0 && arc < arcs;
        }

        int sumOf(int[] row) {
            int sum = 0;
            for (int i = 0; i < nodes; i++) {
                sum += row[i];
            }
            return sum;
        }

        boolean isBalanced(long p, long q) {
            long sum = 0;
            for (int i = 0; i < nodes; i++) {
                sum += scaledSupply(i, p, q);
            }
            return sum == 0;
        }

        long scaledSupply(int node, long p, long q) {
            return mode == SUPPLIES_MODE ? q * supply[node] + p * supplySlope[node] : supply[node];
        }

        long scaledCapacity(int arc, long q) {
            return mode == SUPPLIES_MODE ? q * capacity[arc] : capacity[arc];
        }

        long scaledCost(int arc, long p, long q) {
            return mode == COSTS_MODE ? q * cost[arc] + p * slope[arc] : cost[arc];
        }
    }

    /** The arcs scaled for one parameter, with their flows; the artificial arc of node i has row MAX_ARCS + i. */
    private static final class Arcs {
        int nodes;
        int count;
        final int[] from = new int[ALL_ARCS];
        final int[] to = new int[ALL_ARCS];
        final long[] capacity = new long[ALL_ARCS];
        final long[] cost = new long[ALL_ARCS];
        final long[] flow = new long[ALL_ARCS];
        final int[] place = new int[ALL_ARCS];

        void load(Network net, long p, long q) {
            nodes = net.nodes;
            count = net.arcs;
            long greatest = 0;
            for (int a = 0; a < count; a++) {
                from[a] = net.from[a];
                to[a] = net.to[a];
                capacity[a] = net.scaledCapacity(a, q);
                cost[a] = net.scaledCost(a, p, q);
                flow[a] = 0;
                place[a] = LOWER;
                greatest = Math.max(greatest, Math.abs(cost[a]));
            }
            for (int i = 0; i < nodes; i++) {
                loadArtificial(i, net.scaledSupply(i, p, q), 1 + nodes * greatest);
            }
        }

        private void loadArtificial(int node, long supply, long itsCost) {
            int row = MAX_ARCS + node;
            from[row] = supply >= 0 ? node : nodes;
            to[row] = supply >= 0 ? nodes : node;
            capacity[row] = NO_LIMIT;
            cost[row] = itsCost;
            flow[row] = Math.abs(supply);
            place[row] = IN_TREE;
        }

        boolean hasArtificialFlow() {
            for (int i = 0; i < nodes; i++) {
                if (flow[MAX_ARCS + i] > 0) {
                    return true;
                }
            }
            return false;
        }

        long totalCost() {
            long sum = 0;
            for (int a = 0; a < count; a++) {
                sum += flow[a] * cost[a];
            }
            return sum;
        }

        /** By how much the flow can change when the arc is gone through in its direction or against it. */
        long room(int row, boolean along) {
            return along ? capacity[row] - flow[row] : flow[row];
        }

        void push(int row, boolean along, long amount) {
            flow[row] += along ? amount : -amount;
        }

        void putAtBound(int row) {
            place[row] = flow[row] == 0 ? LOWER : UPPER;
        }
    }

    /** The tree, hung from the root: link[i] is the row of the arc between node i and its parent. */
    private static final class Tree {
        int root;
        final int[] parent = new int[MAX_NODES + 1];
        final int[] link = new int[MAX_NODES + 1];
        final int[] depth = new int[MAX_NODES + 1];
        final long[] potential = new long[MAX_NODES + 1];
        final int[] size = new int[MAX_NODES + 1];
        final int[] order = new int[MAX_NODES + 1];
        final int[] waiting = new int[MAX_NODES + 1];

        void plant(Arcs arcs) {
            root = arcs.nodes;
            parent[root] = root;
            depth[root] = 0;
            potential[root] = 0;
            for (int i = 0; i < root; i++) {
                parent[i] = root;
                link[i] = MAX_ARCS + i;
            }
        }

        /** Depths and potentials, each by the way of the node to the root. */
        void measure(Arcs arcs) {
            for (int i = 0; i < root; i++) {
                int steps = 0;
                long sum = 0;
                for (int v = i; v != root && steps < MAX_NODES; v = parent[v]) {
                    int row = link[v];
                    sum += arcs.from[row] == v ? arcs.cost[row] : -arcs.cost[row];
                    steps++;
                }
                depth[i] = steps;
                potential[i] = sum;
            }
        }

        boolean leadsUp(Arcs arcs, int node) {
            return arcs.from[link[node]] == node;
        }

        /** The node nearest to the root on the way in the tree between two nodes. */
        int apex(int a, int b) {
            int x = a;
            int y = b;
            for (int steps = 0; x != y && steps < 2 * MAX_NODES; steps++) {
                if (depth[x] >= depth[y]) {
                    x = parent[x];
                } else {
                    y = parent[y];
                }
            }
            return x;
        }

        /** Cuts the link of a node off and hangs what was below it by another arc, from inner to outer. */
        void rehang(int cut, int inner, int outer, int row) {
            int node = inner;
            int newParent = outer;
            int newLink = row;
            for (int steps = 0; steps <= MAX_NODES; steps++) {
                int oldParent = parent[node];
                int oldLink = link[node];
                parent[node] = newParent;
                link[node] = newLink;
                if (node == cut) {
                    break;
                }
                newParent = node;
                newLink = oldLink;
                node = oldParent;
            }
        }

        boolean isBelow(int node, int top) {
            int v = node;
            for (int steps = 0; v != top && v != root && steps < MAX_NODES; steps++) {
                v = parent[v];
            }
            return v == top;
        }

        /** Preorder and sizes, which nothing but a solution that is kept needs. */
        void putInOrder() {
            int top = 1;
            waiting[0] = root;
            for (int k = 0; k <= root && top > 0; k++) {
                top--;
                int node = waiting[top];
                order[k] = node;
                for (int v = root - 1; v >= 0; v--) {
                    if (parent[v] == node && top < waiting.length) {
                        waiting[top] = v;
                        top++;
                    }
                }
            }
            Arrays.fill(size, 0);
            for (int i = 0; i < root; i++) {
                int steps = 0;
                for (int v = i; v != root && steps < MAX_NODES; v = parent[v]) {
                    size[v]++;
                    steps++;
                }
            }
        }
    }

    /** The cycle that an entering arc makes with the tree, and where the tree is cut. */
    private static final class Cycle {
        int row;
        boolean along;
        int tail;
        int head;
        int apex;
        long least;
        int cut;
        boolean cutAhead;

        /**
         * Finds the least room on the cycle, and the node below the last arc that has it (none if that is the entering
         * arc). Ahead of the entering arc the way is looked at from its end, so there the first arc with the least
         * room counts, and behind it the last one.
         */
        void close(Arcs arcs, Tree tree, int entering) {
            row = entering;
            along = arcs.place[row] == LOWER;
            tail = along ? arcs.from[row] : arcs.to[row];
            head = along ? arcs.to[row] : arcs.from[row];
            apex = tree.apex(tail, head);
            least = arcs.room(row, along);
            cut = NO_NODE;
            cutAhead = false;
            int steps = 0;
            for (int v = tail; v != apex && steps < MAX_NODES; v = tree.parent[v]) {
                long room = arcs.room(tree.link[v], !tree.leadsUp(arcs, v));
                if (room < least) {
                    least = room;
                    cut = v;
                    cutAhead = true;
                }
                steps++;
            }
            steps = 0;
            for (int v = head; v != apex && steps < MAX_NODES; v = tree.parent[v]) {
                long room = arcs.room(tree.link[v], tree.leadsUp(arcs, v));
                if (room <= least) {
                    least = room;
                    cut = v;
                    cutAhead = false;
                }
                steps++;
            }
        }

        void push(Arcs arcs, Tree tree) {
            arcs.push(row, along, least);
            int steps = 0;
            for (int v = tail; v != apex && steps < MAX_NODES; v = tree.parent[v]) {
                arcs.push(tree.link[v], !tree.leadsUp(arcs, v), least);
                steps++;
            }
            steps = 0;
            for (int v = head; v != apex && steps < MAX_NODES; v = tree.parent[v]) {
                arcs.push(tree.link[v], tree.leadsUp(arcs, v), least);
                steps++;
            }
        }

        /** The arc that leaves goes to its bound, and the entering one takes its place in the tree. */
        int exchange(Arcs arcs, Tree tree) {
            if (cut == NO_NODE) {
                arcs.putAtBound(row);
                return row;
            }
            int leaving = tree.link[cut];
            arcs.putAtBound(leaving);
            arcs.place[row] = IN_TREE;
            tree.rehang(cut, cutAhead ? tail : head, cutAhead ? head : tail, row);
            return leaving;
        }
    }

    /** The solution of a network for one parameter p / q; all costs and flows are scaled. */
    private static final class Simplex {
        int mode;
        long p;
        long q = 1;
        final Arcs arcs = new Arcs();
        final Tree tree = new Tree();
        final Cycle cycle = new Cycle();
        final Longs entered = new Longs();
        final Longs left = new Longs();
        final Range range = new Range();

        int run(Network net, long newP, long newQ) {
            mode = net.mode;
            p = newP;
            q = newQ;
            entered.clear();
            left.clear();
            if (!net.isBalanced(p, q)) {
                return UNBALANCED;
            }
            arcs.load(net, p, q);
            tree.plant(arcs);
            for (int count = 0; count < STEP_LIMIT; count++) {
                tree.measure(arcs);
                int row = entering();
                if (row < 0) {
                    break;
                }
                cycle.close(arcs, tree, row);
                cycle.push(arcs, tree);
                entered.add(row);
                left.add(cycle.exchange(arcs, tree));
            }
            return arcs.hasArtificialFlow() ? INFEASIBLE : SOLVED;
        }

        long reduced(int row) {
            return arcs.cost[row] - tree.potential[arcs.from[row]] + tree.potential[arcs.to[row]];
        }

        /** The row of the arc that enters next, or -1 when the flow is optimal. */
        private int entering() {
            int best = -1;
            long greatest = 0;
            for (int a = 0; a < arcs.count; a++) {
                long gain = 0;
                if (arcs.place[a] == LOWER) {
                    gain = -reduced(a);
                } else if (arcs.place[a] == UPPER) {
                    gain = reduced(a);
                }
                if (gain > greatest) {
                    greatest = gain;
                    best = a;
                }
            }
            return best;
        }

        /** The slope of the value (not scaled) by the parameter, with the tree and the bounds as they are. */
        long rate(Network net) {
            long sum = 0;
            if (mode == COSTS_MODE) {
                for (int a = 0; a < arcs.count; a++) {
                    sum += arcs.flow[a] * net.slope[a];
                }
            } else {
                for (int i = 0; i < arcs.nodes; i++) {
                    sum += net.supplySlope[i] * tree.potential[i];
                }
            }
            return sum;
        }

        /** An end of the interval in which the tree stays optimal; the range is counted in q times the parameter. */
        long end(Network net, boolean upper, boolean denominator) {
            range.clear();
            if (mode == COSTS_MODE) {
                limitByCosts(net);
            } else {
                limitByFlows(net);
            }
            if (upper ? !range.hasUpper : !range.hasLower) {
                return NO_VALUE;
            }
            long top = upper ? range.upperTop : range.lowerTop;
            long bottom = upper ? range.upperBottom : range.lowerBottom;
            return lowestTerms(p * bottom + top, q * bottom, denominator);
        }

        private void limitByCosts(Network net) {
            for (int a = 0; a < arcs.count; a++) {
                if (arcs.place[a] != IN_TREE) {
                    long rate = net.slope[a] - slopeTo(arcs.from[a], net) + slopeTo(arcs.to[a], net);
                    boolean atLower = arcs.place[a] == LOWER;
                    range.keep(atLower ? reduced(a) : -reduced(a), atLower ? rate : -rate);
                }
            }
        }

        /** The slope of a node's potential; the costs of artificial arcs have none. */
        private long slopeTo(int node, Network net) {
            long sum = 0;
            int steps = 0;
            for (int v = node; v != tree.root && steps < MAX_NODES; v = tree.parent[v]) {
                int row = tree.link[v];
                if (row < MAX_ARCS) {
                    sum += tree.leadsUp(arcs, v) ? net.slope[row] : -net.slope[row];
                }
                steps++;
            }
            return sum;
        }

        private void limitByFlows(Network net) {
            for (int v = 0; v < arcs.nodes; v++) {
                int row = tree.link[v];
                long below = slopeBelow(v, net);
                long rate = tree.leadsUp(arcs, v) ? below : -below;
                range.keep(arcs.flow[row], rate);
                range.keep(row < MAX_ARCS ? arcs.capacity[row] - arcs.flow[row] : 0, -rate);
            }
        }

        /** By how much more the supply of all nodes below one grows with the parameter, itself included. */
        private long slopeBelow(int top, Network net) {
            long sum = 0;
            for (int i = 0; i < arcs.nodes; i++) {
                if (tree.isBelow(i, top)) {
                    sum += net.supplySlope[i];
                }
            }
            return sum;
        }
    }

    /** An interval around 0 with fractions as its ends, as far as it has ends. */
    private static final class Range {
        boolean hasLower;
        boolean hasUpper;
        long lowerTop;
        long lowerBottom = 1;
        long upperTop;
        long upperBottom = 1;

        void clear() {
            hasLower = false;
            hasUpper = false;
        }

        /** Leaves the numbers x for which start + rate * x is at least 0; start is not below 0. */
        void keep(long start, long rate) {
            if (rate > 0 && (!hasLower || -start * lowerBottom > lowerTop * rate)) {
                hasLower = true;
                lowerTop = -start;
                lowerBottom = rate;
            }
            if (rate < 0 && (!hasUpper || start * upperBottom < upperTop * -rate)) {
                hasUpper = true;
                upperTop = start;
                upperBottom = -rate;
            }
        }
    }

    /**
     * The value function between two integers. Every solution gives a line that touches the function at its
     * parameter and lies on one side of it everywhere, the same side for all.
     */
    private static final class Curve {
        boolean known;
        int low;
        int high;
        int answer;
        final Longs numerators = new Longs();
        final Longs denominators = new Longs();
        final Longs slopes = new Longs();
        final Line left = new Line();
        final ArrayList<Line> rights = new ArrayList<>();
        int depth;

        /**
         * Goes from low to high: left is the line up to here, and rights are lines found ahead, the nearest last.
         * Answers what it answered before while nothing has changed.
         */
        int trace(Network net, Simplex simplex, int newLow, int newHigh) {
            if (known && low == newLow && high == newHigh) {
                return answer;
            }
            known = true;
            low = newLow;
            high = newHigh;
            answer = begin(net, simplex);
            for (int step = 0; answer == SOLVED && depth > 0 && step < STEP_LIMIT; step++) {
                Line right = rights.get(depth - 1);
                if (left.meets(right)) {
                    depth--;
                } else {
                    split(net, simplex, right);
                }
            }
            return answer;
        }

        private int begin(Network net, Simplex simplex) {
            if (!net.isBalanced(low, 1) || !net.isBalanced(high, 1)) {
                return UNBALANCED;
            }
            depth = 0;
            if (!left.touch(net, simplex, low, 1) || !nextRight().touch(net, simplex, high, 1)) {
                return INFEASIBLE;
            }
            numerators.clear();
            denominators.clear();
            slopes.clear();
            slopes.add(left.slope);
            return SOLVED;
        }

        private Line nextRight() {
            if (depth >= rights.size()) {
                rights.add(new Line());
            }
            depth++;
            return rights.get(depth - 1);
        }

        /** Looks where left and right cross: a breakpoint is there, or a line between them touches there. */
        private void split(Network net, Simplex simplex, Line right) {
            long turn = left.slope > right.slope ? 1 : -1;
            long top = turn * (right.start - left.start);
            long bottom = turn * (left.slope - right.slope);
            long divisor = commonDivisor(top, bottom);
            if (divisor == 0 || bottom == 0) {
                depth--;
                return;
            }
            Line middle = nextRight();
            if (middle.touch(net, simplex, top / divisor, bottom / divisor) && !left.meets(middle)) {
                return;
            }
            addPiece(middle.p, middle.q, right.slope);
            left.copy(right);
            depth -= 2;
        }

        /** At low itself nothing breaks: the line found there need not be the one of the first piece. */
        private void addPiece(long p, long q, long slope) {
            if (p > low * q) {
                numerators.add(p);
                denominators.add(q);
            } else {
                slopes.clear();
            }
            slopes.add(slope);
        }
    }

    /** A line start + slope * x, and the parameter p / q at which it touches the value function. */
    private static final class Line {
        long start;
        long slope;
        long p;
        long q = 1;

        /** Becomes the line of the solution for p / q, if there is one. */
        boolean touch(Network net, Simplex simplex, long newP, long newQ) {
            p = newP;
            q = newQ;
            if (newQ <= 0 || simplex.run(net, newP, newQ) != SOLVED) {
                return false;
            }
            slope = simplex.rate(net);
            start = (simplex.arcs.totalCost() - newP * slope) / newQ;
            return true;
        }

        /** Whether this line, too, touches the value function where the other one does. */
        boolean meets(Line other) {
            return start * other.q + slope * other.p == other.start * other.q + other.slope * other.p;
        }

        void copy(Line other) {
            start = other.start;
            slope = other.slope;
            p = other.p;
            q = other.q;
        }
    }

    /** A row of numbers that grows. */
    private static final class Longs {
        int size;
        long[] items = new long[FIRST_ROOM];

        void clear() {
            size = 0;
        }

        void add(long x) {
            if (size >= items.length) {
                if (size >= STEP_LIMIT) {
                    return;
                }
                items = Arrays.copyOf(items, 2 * size);
            }
            items[size] = x;
            size++;
        }

        long at(int k) {
            return k >= 0 && k < size ? items[k] : NO_VALUE;
        }
    }
}
