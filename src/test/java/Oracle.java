import java.math.BigInteger;
import java.util.ArrayList;
import java.util.Arrays;
import java.util.Collections;
import java.util.List;

/**
 * The document once more, in another way: ways in the tree are searched for anew each time, and the optimal value
 * comes from shortest augmenting paths instead of the simplex method.
 */
final class Oracle {
    static final int ART = 100;

    int nodes = 2;
    int mode;
    final List<int[]> arcs = new ArrayList<>();
    int[] supply = new int[2];
    int[] supplySlope = new int[2];

    /** What one run of the simplex method leaves. */
    static final class Solution {
        int mode;
        long p;
        long q;
        long[] capacity;
        long[] cost;
        long[] flow;
        int[] bound;
        int[][] artificial;
        long artificialCost;
        long[] artificialFlow;
        boolean[] artificialInTree;
        long[] potential;
        final List<int[]> pivots = new ArrayList<>();
    }

    void reset(int n) {
        nodes = n;
        mode = 0;
        arcs.clear();
        supply = new int[n];
        supplySlope = new int[n];
    }

    long scaledSupply(int i, long p, long q) {
        return mode == 1 ? q * supply[i] + p * supplySlope[i] : supply[i];
    }

    long scaledCost(int a, long p, long q) {
        return mode == 0 ? q * arcs.get(a)[3] + p * arcs.get(a)[4] : arcs.get(a)[3];
    }

    long scaledCapacity(int a, long q) {
        return mode == 1 ? q * arcs.get(a)[2] : arcs.get(a)[2];
    }

    boolean balanced(long p, long q) {
        long sum = 0;
        for (int i = 0; i < nodes; i++) {
            sum += scaledSupply(i, p, q);
        }
        return sum == 0;
    }

    // ---- the simplex method

    /** The solution, or null if there is none; the supplies add up to 0. */
    Solution solve(long p, long q) {
        Solution s = start(p, q);
        for (;;) {
            s.potential = potentials(s);
            int best = -1;
            for (int a = 0; a < arcs.size(); a++) {
                long rc = reducedCost(s, a);
                boolean can = s.bound[a] == 0 && rc < 0 || s.bound[a] == 1 && rc > 0;
                if (can && (best < 0 || Math.abs(rc) > Math.abs(reducedCost(s, best)))) {
                    best = a;
                }
            }
            if (best < 0) {
                break;
            }
            pivot(s, best);
        }
        for (long f : s.artificialFlow) {
            if (f > 0) {
                return null;
            }
        }
        return s;
    }

    private Solution start(long p, long q) {
        Solution s = new Solution();
        int m = arcs.size();
        s.mode = mode;
        s.p = p;
        s.q = q;
        s.capacity = new long[m];
        s.cost = new long[m];
        s.flow = new long[m];
        s.bound = new int[m];
        long greatest = 0;
        for (int a = 0; a < m; a++) {
            s.capacity[a] = scaledCapacity(a, q);
            s.cost[a] = scaledCost(a, p, q);
            greatest = Math.max(greatest, Math.abs(s.cost[a]));
        }
        s.artificialCost = 1 + nodes * greatest;
        s.artificial = new int[nodes][];
        s.artificialFlow = new long[nodes];
        s.artificialInTree = new boolean[nodes];
        Arrays.fill(s.artificialInTree, true);
        for (int i = 0; i < nodes; i++) {
            long b = scaledSupply(i, p, q);
            s.artificial[i] = b >= 0 ? new int[] {i, nodes} : new int[] {nodes, i};
            s.artificialFlow[i] = Math.abs(b);
        }
        return s;
    }

    int from(Solution s, int name) {
        return name >= ART ? s.artificial[name - ART][0] : arcs.get(name)[0];
    }

    int to(Solution s, int name) {
        return name >= ART ? s.artificial[name - ART][1] : arcs.get(name)[1];
    }

    long cost(Solution s, int name) {
        return name >= ART ? s.artificialCost : s.cost[name];
    }

    List<Integer> treeArcs(Solution s) {
        List<Integer> names = new ArrayList<>();
        for (int a = 0; a < arcs.size(); a++) {
            if (s.bound[a] == 2) {
                names.add(a);
            }
        }
        for (int i = 0; i < nodes; i++) {
            if (s.artificialInTree[i]) {
                names.add(ART + i);
            }
        }
        return names;
    }

    /** The arcs of the tree from the root to a node, in this order. */
    List<Integer> way(Solution s, int node) {
        List<Integer> found = new ArrayList<>();
        if (!search(s, treeArcs(s), nodes, -1, node, found)) {
            throw new IllegalStateException("no tree");
        }
        Collections.reverse(found);
        return found;
    }

    private boolean search(Solution s, List<Integer> tree, int at, int cameBy, int goal, List<Integer> found) {
        if (at == goal) {
            return true;
        }
        for (int name : tree) {
            if (name == cameBy) {
                continue;
            }
            int next = from(s, name) == at ? to(s, name) : to(s, name) == at ? from(s, name) : -1;
            if (next >= 0 && search(s, tree, next, name, goal, found)) {
                found.add(name);
                return true;
            }
        }
        return false;
    }

    private long[] potentials(Solution s) {
        long[] pi = new long[nodes + 1];
        for (int i = 0; i < nodes; i++) {
            int at = nodes;
            for (int name : way(s, i)) {
                if (from(s, name) == at) {
                    pi[i] -= cost(s, name);
                    at = to(s, name);
                } else {
                    pi[i] += cost(s, name);
                    at = from(s, name);
                }
            }
        }
        return pi;
    }

    long reducedCost(Solution s, int a) {
        return s.cost[a] - s.potential[from(s, a)] + s.potential[to(s, a)];
    }

    private void pivot(Solution s, int enter) {
        boolean atLower = s.bound[enter] == 0;
        List<Integer> out = way(s, atLower ? from(s, enter) : to(s, enter));
        List<Integer> back = way(s, atLower ? to(s, enter) : from(s, enter));
        int apex = nodes;
        while (!out.isEmpty() && !back.isEmpty() && out.get(0).equals(back.get(0))) {
            int name = out.get(0);
            apex = from(s, name) == apex ? to(s, name) : from(s, name);
            out.remove(0);
            back.remove(0);
        }
        Collections.reverse(back);
        List<Integer> cycle = new ArrayList<>(out);
        cycle.add(enter);
        cycle.addAll(back);
        boolean[] along = new boolean[cycle.size()];
        long least = Long.MAX_VALUE;
        int last = -1;
        int at = apex;
        for (int k = 0; k < cycle.size(); k++) {
            int name = cycle.get(k);
            along[k] = from(s, name) == at;
            if (name == enter) {
                along[k] = atLower;
            }
            at = along[k] ? to(s, name) : from(s, name);
            long amount = name >= ART ? (along[k] ? Long.MAX_VALUE : s.artificialFlow[name - ART])
                    : along[k] ? s.capacity[name] - s.flow[name] : s.flow[name];
            if (amount <= least) {
                least = amount;
                last = k;
            }
        }
        for (int k = 0; k < cycle.size(); k++) {
            int name = cycle.get(k);
            long change = along[k] ? least : -least;
            if (name >= ART) {
                s.artificialFlow[name - ART] += change;
            } else {
                s.flow[name] += change;
            }
        }
        s.bound[enter] = 2;
        int leave = cycle.get(last);
        if (leave >= ART) {
            s.artificialInTree[leave - ART] = false;
        } else {
            s.bound[leave] = along[last] ? 1 : 0;
        }
        s.pivots.add(new int[] {enter, leave});
    }

    // ---- the range of the parameter, by the conditions at two parameters, one apart

    /** Lower end, then upper end, each numerator and denominator in lowest terms, or null without an end. */
    BigInteger[][] range(Solution s) {
        List<long[]> conditions = new ArrayList<>();
        if (s.mode == 0) {
            Solution other = copyForCosts(s);
            for (int a = 0; a < arcs.size(); a++) {
                long here = reducedCost(s, a);
                long there = reducedCost(other, a);
                if (s.bound[a] == 0) {
                    conditions.add(new long[] {here, there});
                } else if (s.bound[a] == 1) {
                    conditions.add(new long[] {-here, -there});
                }
            }
        } else {
            long[][] here = treeFlows(s, s.p);
            long[][] there = treeFlows(s, s.p + s.q);
            for (int k = 0; k < here.length; k++) {
                conditions.add(new long[] {here[k][0], there[k][0]});
                conditions.add(new long[] {here[k][1] - here[k][0], here[k][1] - there[k][0]});
            }
        }
        BigInteger[][] ends = new BigInteger[2][];
        for (long[] c : conditions) {
            long rate = c[1] - c[0];
            if (rate != 0) {
                // p / q - here / rate, where here and there are one parameter apart
                BigInteger top = BigInteger.valueOf(s.p).multiply(BigInteger.valueOf(rate))
                        .subtract(BigInteger.valueOf(s.q).multiply(BigInteger.valueOf(c[0])));
                BigInteger[] end = fraction(top, BigInteger.valueOf(s.q).multiply(BigInteger.valueOf(rate)));
                int side = rate > 0 ? 0 : 1;
                if (ends[side] == null || compare(end, ends[side]) * (side == 0 ? 1 : -1) > 0) {
                    ends[side] = end;
                }
            }
        }
        return ends;
    }

    private Solution copyForCosts(Solution s) {
        Solution other = start(s.p + s.q, s.q);
        other.bound = s.bound;
        other.artificial = s.artificial;
        other.artificialInTree = s.artificialInTree;
        other.artificialCost = s.artificialCost;
        other.potential = potentials(other);
        return other;
    }

    /** Flow and capacity of each arc of the tree for the parameter p / s.q, by taking leaves off. */
    private long[][] treeFlows(Solution s, long p) {
        long[] rest = new long[nodes + 1];
        for (int i = 0; i < nodes; i++) {
            rest[i] = scaledSupply(i, p, s.q);
        }
        for (int a = 0; a < arcs.size(); a++) {
            if (s.bound[a] == 1) {
                rest[from(s, a)] -= s.capacity[a];
                rest[to(s, a)] += s.capacity[a];
            }
        }
        List<Integer> open = treeArcs(s);
        List<long[]> found = new ArrayList<>();
        while (!open.isEmpty()) {
            int leaf = -1;
            int only = -1;
            for (int v = 0; v < nodes && leaf < 0; v++) {
                int count = 0;
                for (int name : open) {
                    if (from(s, name) == v || to(s, name) == v) {
                        count++;
                        only = name;
                    }
                }
                if (count == 1) {
                    leaf = v;
                }
            }
            long flow = from(s, only) == leaf ? rest[leaf] : -rest[leaf];
            rest[from(s, only)] -= flow;
            rest[to(s, only)] += flow;
            found.add(new long[] {flow, only >= ART ? 0 : s.capacity[only]});
            open.remove(Integer.valueOf(only));
        }
        return found.toArray(new long[0][]);
    }

    // ---- the optimal value, by shortest augmenting paths

    /** The optimal value times q, or null if there is no flow; the supplies add up to 0. */
    BigInteger optimum(long p, long q) {
        int m = arcs.size();
        int source = nodes;
        int sink = nodes + 1;
        List<long[]> edges = new ArrayList<>(); // tail, head, room, cost; the edge back follows
        long[] excess = new long[nodes];
        BigInteger total = BigInteger.ZERO;
        for (int i = 0; i < nodes; i++) {
            excess[i] = scaledSupply(i, p, q);
        }
        for (int a = 0; a < m; a++) {
            int u = arcs.get(a)[0];
            int v = arcs.get(a)[1];
            long cap = scaledCapacity(a, q);
            long c = scaledCost(a, p, q);
            boolean full = c < 0;
            if (full) {
                excess[u] -= cap;
                excess[v] += cap;
                total = total.add(BigInteger.valueOf(cap).multiply(BigInteger.valueOf(c)));
            }
            edges.add(new long[] {u, v, full ? 0 : cap, c});
            edges.add(new long[] {v, u, full ? cap : 0, -c});
        }
        long missing = 0;
        for (int i = 0; i < nodes; i++) {
            if (excess[i] > 0) {
                edges.add(new long[] {source, i, excess[i], 0});
                edges.add(new long[] {i, source, 0, 0});
                missing += excess[i];
            } else if (excess[i] < 0) {
                edges.add(new long[] {i, sink, -excess[i], 0});
                edges.add(new long[] {sink, i, 0, 0});
            }
        }
        while (missing > 0) {
            long[] far = new long[nodes + 2];
            int[] by = new int[nodes + 2];
            Arrays.fill(far, Long.MAX_VALUE);
            far[source] = 0;
            boolean changed = true;
            while (changed) {
                changed = false;
                for (int e = 0; e < edges.size(); e++) {
                    long[] x = edges.get(e);
                    if (x[2] > 0 && far[(int) x[0]] != Long.MAX_VALUE && far[(int) x[0]] + x[3] < far[(int) x[1]]) {
                        far[(int) x[1]] = far[(int) x[0]] + x[3];
                        by[(int) x[1]] = e;
                        changed = true;
                    }
                }
            }
            if (far[sink] == Long.MAX_VALUE) {
                return null;
            }
            long amount = missing;
            for (int v = sink; v != source; v = (int) edges.get(by[v])[0]) {
                amount = Math.min(amount, edges.get(by[v])[2]);
            }
            for (int v = sink; v != source; v = (int) edges.get(by[v])[0]) {
                edges.get(by[v])[2] -= amount;
                edges.get(by[v] ^ 1)[2] += amount;
            }
            missing -= amount;
            total = total.add(BigInteger.valueOf(amount).multiply(BigInteger.valueOf(far[sink])));
        }
        return total;
    }

    static BigInteger[] fraction(BigInteger top, BigInteger bottom) {
        BigInteger d = top.gcd(bottom);
        if (bottom.signum() < 0) {
            d = d.negate();
        }
        return new BigInteger[] {top.divide(d), bottom.divide(d)};
    }

    static int compare(BigInteger[] x, BigInteger[] y) {
        return x[0].multiply(y[1]).compareTo(y[0].multiply(x[1]));
    }
}
