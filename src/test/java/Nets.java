/** Small nets that several tests use. */
final class Nets {
    private Nets() {
    }

    /** Four nodes, five edges of at most eight, none between 0 and 3. */
    static FlowProofs withoutEnds() {
        return addEdges(new FlowProofs(4, 8));
    }

    /** Two rounds: 0-1-2-3 first (cost 3, amount 4), then by the arc back of edge 2 (cost 11, amount 2). */
    static FlowProofs withArcBack() {
        FlowProofs x = withoutEnds();
        x.ends(0, 3);
        return x;
    }

    /** As withArcBack, but it has the edges that it can have. */
    static FlowProofs full() {
        FlowProofs x = addEdges(new FlowProofs(4, 5));
        x.ends(0, 3);
        return x;
    }

    /** As withArcBack, solved. */
    static FlowProofs solved() {
        FlowProofs x = withArcBack();
        x.run(10_000);
        return x;
    }

    static FlowProofs circleWithoutEnds() {
        FlowProofs x = new FlowProofs(5, 10);
        x.edge(0, 1, 3, 2);
        x.edge(2, 3, 1, -4);
        x.edge(3, 2, 1, 3);
        return x;
    }

    /** A circle of cost -1 away from both ends, that no way from the source comes to. */
    static FlowProofs withCircle() {
        FlowProofs x = circleWithoutEnds();
        x.ends(0, 1);
        return x;
    }

    /** A net by Zadeh, twelve nodes: it needs 38 rounds of one unit each. */
    static FlowProofs manyRounds() {
        FlowProofs x = new FlowProofs(12, 40);
        int[] fromSource = {1, 3, 5, 10, 20};
        int[] toSink = {2, 2, 5, 10, 20};
        for (int i = 0; i < 5; i++) x.edge(0, 1 + i, fromSource[i], 0);
        for (int i = 0; i < 5; i++) x.edge(6 + i, 11, toSink[i], 0);
        for (int i = 0; i < 5; i++) {
            for (int j = 0; j < 5; j++) {
                if (i != j) x.edge(1 + i, 6 + j, 1_000_000, (2 << Math.max(i, j)) - 1);
            }
        }
        x.edge(1, 6, 1_000_000, 0);
        x.ends(0, 11);
        return x;
    }

    /** A chain of all twelve nodes, from 0 to 11, each edge with this capacity and cost. */
    static FlowProofs longestChain(int capacity, int cost) {
        FlowProofs x = new FlowProofs(12, 40);
        for (int v = 0; v < 11; v++) x.edge(v, v + 1, capacity, cost);
        x.ends(0, 11);
        return x;
    }

    private static FlowProofs addEdges(FlowProofs x) {
        x.edge(0, 1, 4, 1);
        x.edge(0, 2, 2, 5);
        x.edge(1, 2, 4, 1);
        x.edge(1, 3, 2, 7);
        x.edge(2, 3, 4, 1);
        return x;
    }
}
