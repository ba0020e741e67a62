/** Small nets that several tests use. */
final class Nets {
    private Nets() {
    }

    /** Two rounds: 0-1-2-3 first (cost 3, amount 4), then by the arc back of edge 2 (cost 11, amount 2). */
    static FlowProofs withArcBack() {
        FlowProofs x = new FlowProofs(4, 5);
        x.edge(0, 1, 4, 1);
        x.edge(0, 2, 2, 5);
        x.edge(1, 2, 4, 1);
        x.edge(1, 3, 2, 7);
        x.edge(2, 3, 4, 1);
        x.ends(0, 3);
        return x;
    }

    /** As withArcBack, solved. */
    static FlowProofs solved() {
        FlowProofs x = withArcBack();
        x.run(10_000);
        return x;
    }

    /** A circle of cost -1 away from both ends, that no way from the source comes to. */
    static FlowProofs withCircle() {
        FlowProofs x = new FlowProofs(5, 10);
        x.edge(0, 1, 3, 2);
        x.edge(2, 3, 1, -4);
        x.edge(3, 2, 1, 3);
        x.ends(0, 1);
        return x;
    }
}
