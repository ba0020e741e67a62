/** Promise 9: inCut. */
public final class Promise09InCutTest {
    private static final Due DUE = new Due("Promise 9");
    private static final int MIN = Integer.MIN_VALUE, MAX = Integer.MAX_VALUE;

    public static void main(String[] args) {
        DUE.holds("'Whether there is such a way'", Promise09InCutTest::whetherThereIs);
        DUE.holds("'Whether there is such a way': to the source, never to the sink", Promise09InCutTest::sourceAndSink);
        DUE.holds("'Whether there is such a way': also at a cost of - 1", Promise09InCutTest::atMinusOne);
        DUE.holds("'False also: not solved': no ends", () -> no(State.withoutEnds()));
        DUE.holds("'False also: not solved': a circle of negative cost", () -> no(State.withCircle()));
        DUE.holds("'False also: not solved': not yet, or no more after an edge or ends", () -> no(State.underWay()));
        DUE.holds("'False also: .. none such': below 0", Promise09InCutTest::tooSmall);
        DUE.holds("'False also: .. none such': n and beyond", Promise09InCutTest::tooLarge);
        DUE.finish();
    }

    // Promise 9, "Whether there is such a way": by edges that are not full, by arcs back, not against edges.
    private static void whetherThereIs() {
        FlowProofs x = new FlowProofs(5, 9);
        x.edge(0, 1, 2, 1);
        x.edge(1, 2, 2, 1);
        x.edge(2, 3, 2, 1);
        x.edge(0, 2, 1, 8);
        x.edge(4, 0, 1, 1);
        x.ends(0, 3);
        x.run(1);
        boolean[] want = {true, true, true, false, false};
        for (int v = 0; v < 5; v++) DUE.is("inCut(" + v + ")", want[v], x.inCut(v));
    }

    // Promise 9, "Whether there is such a way": 0 for itself; and none to the sink, as it is solved.
    private static void sourceAndSink() {
        FlowProofs x = new FlowProofs(12, 40);
        for (int v = 0; v < 12; v++) x.edge(v, (v + 1) % 12, 1 + v, 1);
        for (int source = 0; source < 12; source++) {
            int sink = (source + 7) % 12;
            x.ends(source, sink);
            x.run(10_000);
            DUE.is("source " + source, true, x.inCut(source));
            DUE.is("sink " + sink, false, x.inCut(sink));
        }
    }

    // Promise 9, "Whether there is such a way": its potential is BAD's number, and yet it is one.
    private static void atMinusOne() {
        FlowProofs x = new FlowProofs(3, 1);
        x.edge(0, 1, 1, -1);
        x.ends(0, 2);
        x.run(0);
        DUE.is("potential(1)", -1, x.potential(1));
        DUE.is("inCut(1)", true, x.inCut(1));
    }

    // Promise 9, "False also: not solved".
    private static void no(Iterable<State> states) {
        for (State state : states) {
            FlowProofs x = state.make();
            for (int v = 0; v < x.count(0); v++) DUE.is(state.name() + ": inCut(" + v + ")", false, x.inCut(v));
        }
    }

    private static void refused(int node) {
        Refused.no(DUE, "inCut(" + node + ")", x -> x.inCut(node));
    }

    // Promise 9, "False also: .. none such".
    private static void tooSmall() {
        for (int node : new int[] {-1, -2, MIN}) refused(node);
    }

    // Promise 9, "False also: .. none such".
    private static void tooLarge() {
        Refused.no(DUE, "inCut(n)", x -> x.inCut(x.count(0)));
        for (int node : new int[] {5, 12, 13, MAX}) refused(node);
    }
}
