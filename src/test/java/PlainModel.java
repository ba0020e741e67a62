import java.util.ArrayList;
import java.util.List;

/**
 * The document in its plainest form, as a second opinion: ways are compared arc by arc as the terms
 * say, circles are looked for between all pairs of nodes, and nothing is kept but the flow.
 */
final class PlainModel {
    private static final int NO_WAY = Integer.MAX_VALUE;
    private static final int TRY_ALL_UP_TO = 6;

    private record Edge(int u, int v, int capacity, int cost) {
    }

    private record Way(int cost, List<Integer> arcs) {
        boolean isBetterThan(Way other) {
            if (other == null) return true;
            if (cost != other.cost) return cost < other.cost;
            if (arcs.size() != other.arcs.size()) return arcs.size() < other.arcs.size();
            for (int i = 0; i < arcs.size(); i++) {
                int mine = arcs.get(i);
                int others = other.arcs.get(i);
                if (mine != others) return mine < others;
            }
            return false;
        }

        Way with(int arc, int arcCost) {
            List<Integer> longer = new ArrayList<>(arcs);
            longer.add(arc);
            return new Way(cost + arcCost, longer);
        }
    }

    private final int n;
    private final int m;
    private final List<Edge> edges = new ArrayList<>();
    private int[] flow = new int[0];
    private int source = -1;
    private int sink = -1;
    private boolean solved = false;
    private int rounds = 0;
    private int flowing = 0;
    private Way best;

    PlainModel(int nodes, int edges) {
        n = nodes < 2 ? 2 : nodes > 12 ? 12 : nodes;
        m = edges < 1 ? 1 : edges > 40 ? 40 : edges;
    }

    int edge(int u, int v, int capacity, int cost) {
        if (!isNode(u) || !isNode(v) || u == v || edges.size() == m) return -1;
        if (capacity < 0 || capacity > 1000000 || cost < -10000 || cost > 10000) return -1;
        edges.add(new Edge(u, v, capacity, cost));
        forget();
        return edges.size() - 1;
    }

    boolean ends(int s, int t) {
        if (!isNode(s) || !isNode(t) || s == t) return false;
        source = s;
        sink = t;
        forget();
        return true;
    }

    int run(int most) {
        if (most < 0 || most > 10000) return -1;
        if (source < 0) return 2;
        if (hasCircle()) return 3;
        int todo = most;
        while (!solved) {
            Way way = bestWay(source, sink);
            if (way == null) {
                solved = true;
            } else if (todo == 0) {
                return 1;
            } else {
                todo--;
                round(way);
            }
        }
        return 0;
    }

    int value() {
        return solved ? flowing : -1;
    }

    long cost() {
        long sum = 0;
        for (int e = 0; solved && e < flow.length; e++) sum += (long) flow[e] * edges.get(e).cost;
        return sum;
    }

    int flow(int e) {
        return e >= 0 && e < flow.length ? flow[e] : -1;
    }

    int potential(int node) {
        if (!solved || !isNode(node)) return -1;
        Way way = bestWay(source, node);
        return way == null ? NO_WAY : way.cost;
    }

    boolean inCut(int node) {
        return solved && isNode(node) && bestWay(source, node) != null;
    }

    // The theorem holds for whatever is solved.
    boolean check() {
        return solved;
    }

    int next() {
        if (source < 0 || solved || hasCircle()) return -1;
        Way way = bestWay(source, sink);
        return way == null ? -1 : way.cost;
    }

    int count(int what) {
        return what == 0 ? n : what == 1 ? edges.size() : what == 2 ? rounds : what == 3 ? flowing : -1;
    }

    private boolean isNode(int node) {
        return node >= 0 && node < n;
    }

    private void forget() {
        flow = new int[edges.size()];
        solved = false;
        rounds = 0;
        flowing = 0;
    }

    private void round(Way way) {
        int amount = Integer.MAX_VALUE;
        for (int arc : way.arcs) amount = Math.min(amount, left(arc));
        for (int arc : way.arcs) flow[arc / 2] += arc % 2 == 0 ? amount : -amount;
        flowing += amount;
        rounds++;
    }

    private int left(int arc) {
        return arc % 2 == 0 ? edges.get(arc / 2).capacity - flow[arc / 2] : flow[arc / 2];
    }

    private int begin(int arc) {
        return arc % 2 == 0 ? edges.get(arc / 2).u : edges.get(arc / 2).v;
    }

    private int end(int arc) {
        return begin(arc ^ 1);
    }

    private int arcCost(int arc) {
        int cost = edges.get(arc / 2).cost;
        return arc % 2 == 0 ? cost : -cost;
    }

    /** By the least cost of a chain of edges between each two nodes, as Floyd and Warshall find it. */
    private boolean hasCircle() {
        long none = Long.MAX_VALUE / 4;
        long[][] least = new long[n][n];
        for (int i = 0; i < n; i++) for (int j = 0; j < n; j++) least[i][j] = none;
        for (Edge e : edges) if (e.capacity > 0) least[e.u][e.v] = Math.min(least[e.u][e.v], e.cost);
        for (int k = 0; k < n; k++) {
            for (int i = 0; i < n; i++) {
                for (int j = 0; j < n; j++) {
                    if (least[i][k] == none || least[k][j] == none) continue;
                    least[i][j] = Math.max(-none, Math.min(least[i][j], least[i][k] + least[k][j]));
                }
            }
        }
        for (int i = 0; i < n; i++) if (least[i][i] < 0) return true;
        return false;
    }

    private Way bestWay(int from, int to) {
        Way empty = new Way(0, new ArrayList<>());
        if (from == to) return empty;
        if (n > TRY_ALL_UP_TO) return bestOfEachLength(from, to);
        best = null;
        tryAll(from, to, 1 << from, empty);
        return best;
    }

    private void tryAll(int at, int to, int seen, Way way) {
        if (at == to) {
            if (way.isBetterThan(best)) best = way;
            return;
        }
        for (int arc = 0; arc < 2 * edges.size(); arc++) {
            if (begin(arc) != at || left(arc) <= 0 || (seen >> end(arc) & 1) != 0) continue;
            tryAll(end(arc), to, seen | 1 << end(arc), way.with(arc, arcCost(arc)));
        }
    }

    // For nets with too many ways to try: the best chain of exactly k arcs to each node, k = 1, 2, ..
    // There is no circle of negative cost, so the best of them all goes to no node twice.
    private Way bestOfEachLength(int from, int to) {
        Way[] chains = new Way[n];
        chains[from] = new Way(0, new ArrayList<>());
        Way found = null;
        for (int k = 1; k < n; k++) {
            Way[] longer = new Way[n];
            for (int arc = 0; arc < 2 * edges.size(); arc++) {
                if (left(arc) <= 0 || chains[begin(arc)] == null) continue;
                Way way = chains[begin(arc)].with(arc, arcCost(arc));
                if (way.isBetterThan(longer[end(arc)])) longer[end(arc)] = way;
            }
            chains = longer;
            if (chains[to] != null && chains[to].isBetterThan(found)) found = chains[to];
        }
        return found;
    }
}
