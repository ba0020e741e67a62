import java.util.Random;

/** Runs of up to 512 random calls, the same ones every time, against the plain model. */
public final class RandomRunsTest {
    private static final Due DUE = new Due("Random runs");
    private static final int[] ODD = {
        Integer.MIN_VALUE, -1_000_001, -10_001, -1, 0, 1, 40, 10_000, 10_001, 1_000_000, 1_000_001, Integer.MAX_VALUE};

    private final Random random;
    private final FlowProofs x;
    private final PlainModel model;
    private final int nodes;
    private final int maxEdges;
    private final int[] height;
    private final int costs;
    private final int capacities;
    private final boolean wild;
    private final String name;

    private RandomRunsTest(int seed) {
        random = new Random(seed);
        boolean big = seed % 4 == 0;
        nodes = big ? 7 + random.nextInt(6) : 2 + random.nextInt(5);
        maxEdges = big ? 15 + random.nextInt(26) : 1 + random.nextInt(12);
        x = new FlowProofs(nodes, maxEdges);
        model = new PlainModel(nodes, maxEdges);
        costs = random.nextInt(3) == 0 ? 1 : random.nextInt(3) == 0 ? 3000 : 4;
        capacities = random.nextInt(3) == 0 ? 1_000_000 : 1 + random.nextInt(6);
        wild = random.nextInt(4) == 0;
        height = new int[nodes];
        for (int v = 0; v < nodes; v++) height[v] = random.nextInt(costs);
        name = "run " + seed;
    }

    public static void main(String[] args) {
        for (int seed = 0; seed < 600; seed++) new RandomRunsTest(seed).callAll(seed % 3 == 0 ? 510 : 120);
        DUE.finish();
    }

    private void callAll(int calls) {
        if (random.nextBoolean()) {
            ends();
            for (int i = 0; i < maxEdges && i < calls / 4; i++) edge();
        }
        for (int i = 0; i < calls * 3 / 4; i++) call();
    }

    private void call() {
        switch (random.nextInt(16)) {
            case 0: edge(); break;
            case 1: if (random.nextInt(4) == 0) ends(); else next(); break;
            case 2: case 3: case 4: run(); break;
            case 5: DUE.is(name + " value()", model.value(), x.value()); break;
            case 6: DUE.is(name + " cost()", model.cost(), x.cost()); break;
            case 7: case 8: case 9: flow(); break;
            case 10: potential(); break;
            case 11: inCut(); break;
            case 12: DUE.is(name + " check()", model.check(), x.check()); break;
            case 13: case 14: next(); break;
            default: count(); break;
        }
    }

    private int oddOr(int ordinary) {
        return random.nextInt(40) == 0 ? ODD[random.nextInt(ODD.length)] : ordinary;
    }

    private int node() {
        return oddOr(random.nextInt(20) == 0 ? nodes : random.nextInt(nodes));
    }

    // Costs are those of a climb and a little more, so that no circle is negative, but in wild nets.
    private void edge() {
        int u = node();
        int v = node();
        boolean known = u >= 0 && u < nodes && v >= 0 && v < nodes;
        int climb = known ? height[v] - height[u] : 0;
        int cost = oddOr(climb + random.nextInt(costs));
        if (wild && random.nextInt(3) == 0) cost = -random.nextInt(costs + 1);
        int capacity = oddOr(random.nextInt(8) == 0 ? 0 : 1 + random.nextInt(capacities));
        String call = name + " edge(" + u + ", " + v + ", " + capacity + ", " + cost + ")";
        DUE.is(call, model.edge(u, v, capacity, cost), x.edge(u, v, capacity, cost));
    }

    private void ends() {
        int source = node();
        int sink = node();
        DUE.is(name + " ends(" + source + ", " + sink + ")", model.ends(source, sink), x.ends(source, sink));
    }

    private void run() {
        int rounds = oddOr(random.nextInt(4));
        DUE.is(name + " run(" + rounds + ")", model.run(rounds), x.run(rounds));
    }

    private void flow() {
        int e = oddOr(random.nextInt(maxEdges + 1));
        DUE.is(name + " flow(" + e + ")", model.flow(e), x.flow(e));
    }

    private void potential() {
        int node = node();
        DUE.is(name + " potential(" + node + ")", model.potential(node), x.potential(node));
    }

    private void inCut() {
        int node = node();
        DUE.is(name + " inCut(" + node + ")", model.inCut(node), x.inCut(node));
    }

    private void next() {
        DUE.is(name + " next()", model.next(), x.next());
    }

    private void count() {
        int what = oddOr(random.nextInt(4));
        DUE.is(name + " count(" + what + ")", model.count(what), x.count(what));
    }
}
