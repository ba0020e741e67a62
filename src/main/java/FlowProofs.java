import java.util.Arrays;

/**
 * A flow through a net, from a source to a sink, as much as can be and as cheap as that can be,
 * found way by way; with a cut, potentials, and a checker that shows by them that it is so.
 */
public final class FlowProofs {
    public static final int BAD = -1, DONE = 0, MORE = 1, NO_ENDS = 2, CIRCLE = 3;

    private static final int LEAST_NODES = 2, MOST_NODES = 12;
    private static final int LEAST_EDGES = 1, MOST_EDGES = 40;
    private static final int MOST_CAPACITY = 1_000_000, MOST_COST = 10_000;
    private static final long MOST_CAPACITY_IN_ALL = 1_073_741_824L;
    private static final int MOST_ROUNDS = 10_000;
    private static final int NONE = -1;
    private static final int NO_WAY = Integer.MAX_VALUE;

    private final Net net;
    private final Distances fromSource;
    private final Distances toSink;
    private final int[] way;
    private int wayLength;
    private int source = NONE;
    private int sink = NONE;
    private boolean circle;
    private boolean solved;
    private int roundsDone;
    private int flowing;

    public FlowProofs(int nodes, int edges) {
        int n = within(nodes, LEAST_NODES, MOST_NODES);
        net = new Net(n, within(edges, LEAST_EDGES, MOST_EDGES));
        fromSource = new Distances(net);
        toSink = new Distances(net);
        way = new int[n];
    }

    public int edge(int u, int v, int capacity, int cost) {
        if (!net.hasNode(u) || !net.hasNode(v) || u == v) return BAD;
        if (capacity < 0 || capacity > MOST_CAPACITY) return BAD;
        if (cost < -MOST_COST || cost > MOST_COST) return BAD;
        if (net.isFull() || net.capacityInAll() + capacity > MOST_CAPACITY_IN_ALL) return BAD;
        forgetSolving();
        int added = net.add(u, v, capacity, cost);
        // Only edges make circles, so the answer stands until the next edge, whatever the ends are.
        circle = !fromSource.settlesFromEverywhere();
        return added;
    }

    public boolean ends(int source, int sink) {
        if (!net.hasNode(source) || !net.hasNode(sink) || source == sink) return false;
        forgetSolving();
        this.source = source;
        this.sink = sink;
        return true;
    }

    public int run(int rounds) {
        if (rounds < 0 || rounds > MOST_ROUNDS) return BAD;
        if (source == NONE) return NO_ENDS;
        if (circle) return CIRCLE;
        if (solved) return DONE;
        boolean found = findWay();
        for (int i = 0; i < rounds && found; i++) {
            doRound();
            found = findWay();
        }
        if (found) return MORE;
        solved = true;
        fromSource.measureFrom(source);
        return DONE;
    }

    public int value() {
        return solved ? flowing : BAD;
    }

    public long cost() {
        return solved ? net.costOfFlow() : 0L;
    }

    public int flow(int edge) {
        return net.hasEdge(edge) ? net.flow[edge] : BAD;
    }

    public int potential(int node) {
        return solved && net.hasNode(node) ? fromSource.least[node] : BAD;
    }

    public boolean inCut(int node) {
        return solved && net.hasNode(node) && fromSource.reaches(node);
    }

    public boolean check() {
        return solved && flowsFit() && nodesPassOn() && cutIsTight() && potentialsHold();
    }

    public int next() {
        if (source == NONE || circle || solved) return BAD;
        return findWay() ? toSink.least[source] : BAD;
    }

    public int count(int what) {
        switch (what) {
            case 0: return net.nodes;
            case 1: return net.edges;
            case 2: return roundsDone;
            case 3: return flowing;
            default: return BAD;
        }
    }

    private static int within(int number, int least, int most) {
        return Math.max(least, Math.min(most, number));
    }

    private void forgetSolving() {
        net.clearFlow();
        solved = false;
        roundsDone = 0;
        flowing = 0;
    }

    private boolean findWay() {
        toSink.measureTo(sink);
        return toSink.reaches(source);
    }

    private void doRound() {
        traceWay();
        int amount = leastOnWay();
        for (int i = 0; i < wayLength; i++) net.send(way[i], amount);
        flowing += amount;
        roundsDone++;
    }

    // Every arc that keeps to the distances belongs to a way of least cost and fewest arcs,
    // so the least such arc at each node gives the best way.
    private void traceWay() {
        wayLength = 0;
        int at = source;
        while (at != sink && wayLength < way.length) {
            int arc = toSink.leastArcOnward(at);
            if (arc == NONE) return;
            way[wayLength] = arc;
            wayLength++;
            at = net.end(arc);
        }
    }

    private int leastOnWay() {
        if (wayLength == 0) return 0;
        int least = net.left(way[0]);
        for (int i = 1; i < wayLength; i++) least = Math.min(least, net.left(way[i]));
        return least;
    }

    private boolean flowsFit() {
        for (int e = 0; e < net.edges; e++) {
            if (net.flow[e] < 0 || net.flow[e] > net.capacity[e]) return false;
        }
        return true;
    }

    private boolean nodesPassOn() {
        for (int node = 0; node < net.nodes; node++) {
            if (node != source && node != sink && net.surplus(node) != 0) return false;
        }
        return true;
    }

    private boolean cutIsTight() {
        long cutCapacity = 0;
        for (int e = 0; e < net.edges; e++) {
            boolean beginsInside = fromSource.reaches(net.from[e]);
            boolean endsInside = fromSource.reaches(net.to[e]);
            if (beginsInside && !endsInside) {
                if (net.flow[e] != net.capacity[e]) return false;
                cutCapacity += net.capacity[e];
            }
            if (!beginsInside && endsInside && net.flow[e] != 0) return false;
        }
        return cutCapacity == flowing;
    }

    private boolean potentialsHold() {
        for (int arc = 0; arc < net.arcs(); arc++) {
            int begin = net.begin(arc);
            int end = net.end(arc);
            if (net.left(arc) <= 0 || !fromSource.reaches(begin) || !fromSource.reaches(end)) continue;
            if (fromSource.least[begin] + net.price(arc) < fromSource.least[end]) return false;
        }
        return true;
    }

    /** The edges and what flows along them; arc 2 e goes along edge e, arc 2 e + 1 back. */
    private static final class Net {
        final int nodes;
        final int[] from;
        final int[] to;
        final int[] capacity;
        final int[] unitCost;
        final int[] flow;
        int edges;

        Net(int nodes, int mostEdges) {
            this.nodes = nodes;
            from = new int[mostEdges];
            to = new int[mostEdges];
            capacity = new int[mostEdges];
            unitCost = new int[mostEdges];
            flow = new int[mostEdges];
        }

        boolean hasNode(int node) {
            return node >= 0 && node < nodes;
        }

        boolean hasEdge(int e) {
            return e >= 0 && e < edges;
        }

        boolean isFull() {
            return edges >= from.length;
        }

        long capacityInAll() {
            long sum = 0;
            for (int e = 0; e < edges; e++) sum += capacity[e];
            return sum;
        }

        /** The caller has asked isFull. */
        int add(int u, int v, int most, int unit) {
            int e = edges;
            from[e] = u;
            to[e] = v;
            capacity[e] = most;
            unitCost[e] = unit;
            edges++;
            return e;
        }

        void clearFlow() {
            Arrays.fill(flow, 0);
        }

        long costOfFlow() {
            long sum = 0;
            for (int e = 0; e < edges; e++) sum += (long) flow[e] * unitCost[e];
            return sum;
        }

        /** What comes to a node and does not go on. */
        long surplus(int node) {
            long sum = 0;
            for (int e = 0; e < edges; e++) {
                if (to[e] == node) sum += flow[e];
                if (from[e] == node) sum -= flow[e];
            }
            return sum;
        }

        int arcs() {
            return 2 * edges;
        }

        int begin(int arc) {
            return isBack(arc) ? to[arc >> 1] : from[arc >> 1];
        }

        int end(int arc) {
            return isBack(arc) ? from[arc >> 1] : to[arc >> 1];
        }

        int price(int arc) {
            return isBack(arc) ? -unitCost[arc >> 1] : unitCost[arc >> 1];
        }

        int left(int arc) {
            int e = arc >> 1;
            return isBack(arc) ? flow[e] : capacity[e] - flow[e];
        }

        void send(int arc, int amount) {
            flow[arc >> 1] += isBack(arc) ? -amount : amount;
        }

        private static boolean isBack(int arc) {
            return (arc & 1) != 0;
        }
    }

    /** For each node the least cost of the ways between it and one node, and the fewest arcs at that cost. */
    private static final class Distances {
        final int[] least;
        private final int[] fewest;
        private final Net net;

        Distances(Net net) {
            this.net = net;
            least = new int[net.nodes];
            fewest = new int[net.nodes];
        }

        boolean reaches(int node) {
            return least[node] != NO_WAY;
        }

        void measureFrom(int node) {
            beginAt(node);
            settle(false);
        }

        void measureTo(int node) {
            beginAt(node);
            settle(true);
        }

        /** False tells that open arcs make a circle of negative cost. */
        boolean settlesFromEverywhere() {
            Arrays.fill(least, 0);
            Arrays.fill(fewest, 0);
            return settle(false);
        }

        /** The least open arc by which a best way from a node can begin, or NONE. */
        int leastArcOnward(int node) {
            for (int arc = 0; arc < net.arcs(); arc++) {
                if (net.begin(arc) != node || net.left(arc) <= 0) continue;
                int end = net.end(arc);
                if (!reaches(end)) continue;
                if (least[end] + net.price(arc) == least[node] && fewest[end] + 1 == fewest[node]) return arc;
            }
            return NONE;
        }

        private void beginAt(int node) {
            Arrays.fill(least, NO_WAY);
            Arrays.fill(fewest, 0);
            least[node] = 0;
        }

        // A way has fewer arcs than there are nodes, so without a negative circle
        // the last of so many passes finds nothing to change.
        private boolean settle(boolean backward) {
            for (int pass = 0; pass < net.nodes; pass++) {
                if (!passOverArcs(backward)) return true;
            }
            return false;
        }

        private boolean passOverArcs(boolean backward) {
            boolean changed = false;
            for (int arc = 0; arc < net.arcs(); arc++) {
                if (net.left(arc) <= 0) continue;
                int near = backward ? net.end(arc) : net.begin(arc);
                int far = backward ? net.begin(arc) : net.end(arc);
                if (reaches(near) && shorten(far, least[near] + net.price(arc), fewest[near] + 1)) changed = true;
            }
            return changed;
        }

        private boolean shorten(int node, int length, int arcs) {
            if (length > least[node] || length == least[node] && arcs >= fewest[node]) return false;
            least[node] = length;
            fewest[node] = arcs;
            return true;
        }
    }
}
