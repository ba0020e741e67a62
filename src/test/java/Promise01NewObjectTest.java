/** Promise 1: a new object. */
public final class Promise01NewObjectTest {
    private static final Due DUE = new Due("Promise 1");
    private static final int MIN = Integer.MIN_VALUE, MAX = Integer.MAX_VALUE;

    public static void main(String[] args) {
        DUE.holds("'n nodes (2 .. 12)': those within stay", Promise01NewObjectTest::nodesWithin);
        DUE.holds("'brought within': too few nodes are 2", Promise01NewObjectTest::tooFewNodes);
        DUE.holds("'brought within': too many nodes are 12", Promise01NewObjectTest::tooManyNodes);
        DUE.holds("'at most m edges (1 .. 40)': those within stay", Promise01NewObjectTest::edgesWithin);
        DUE.holds("'brought within': too few edges are 1", Promise01NewObjectTest::tooFewEdges);
        DUE.holds("'brought within': too many edges are 40", Promise01NewObjectTest::tooManyEdges);
        DUE.holds("'brought within': nodes and edges both", Promise01NewObjectTest::bothOutside);
        DUE.holds("'No edges'", Promise01NewObjectTest::noEdges);
        DUE.holds("'no source and sink'", Promise01NewObjectTest::noEnds);
        DUE.holds("'No edges, no source and sink': beside objects that have them", Promise01NewObjectTest::besideOthers);
        DUE.finish();
    }

    private static void hasNodes(int asked, int want) {
        FlowProofs x = new FlowProofs(asked, 3);
        DUE.is("count(0) of " + asked + " nodes", want, x.count(0));
        DUE.is("edge to the last of " + asked + " nodes", 0, x.edge(0, want - 1, 1, 1));
        DUE.is("edge beyond the last of " + asked + " nodes", FlowProofs.BAD, x.edge(0, want, 1, 1));
        DUE.is("ends beyond the last of " + asked + " nodes", false, x.ends(0, want));
        DUE.is("ends at the last of " + asked + " nodes", true, x.ends(0, want - 1));
    }

    private static void hasEdges(int asked, int want) {
        FlowProofs x = new FlowProofs(3, asked);
        for (int e = 0; e < want; e++) DUE.is("edge " + e + " of " + asked, e, x.edge(0, 1, 1, 1));
        DUE.is("edge beyond the last of " + asked, FlowProofs.BAD, x.edge(0, 1, 1, 1));
        DUE.is("count(1) of " + asked, want, x.count(1));
    }

    // Promise 1, "n nodes (2 .. 12, brought within)".
    private static void nodesWithin() {
        for (int n = 2; n <= 12; n++) hasNodes(n, n);
    }

    // Promise 1, "n nodes (2 .. 12, brought within)": too small.
    private static void tooFewNodes() {
        for (int asked : new int[] {1, 0, -1, -12, MIN}) hasNodes(asked, 2);
    }

    // Promise 1, "n nodes (2 .. 12, brought within)": too large.
    private static void tooManyNodes() {
        for (int asked : new int[] {13, 14, 1_000_000_000, MAX}) hasNodes(asked, 12);
    }

    // Promise 1, "at most m edges (1 .. 40)".
    private static void edgesWithin() {
        for (int m = 1; m <= 40; m++) hasEdges(m, m);
    }

    // Promise 1, "at most m edges (1 .. 40)": too small.
    private static void tooFewEdges() {
        for (int asked : new int[] {0, -1, -40, MIN}) hasEdges(asked, 1);
    }

    // Promise 1, "at most m edges (1 .. 40)": too large.
    private static void tooManyEdges() {
        for (int asked : new int[] {41, 42, 1_000_000_000, MAX}) hasEdges(asked, 40);
    }

    // Promise 1, "brought within": the one does not depend on the other.
    private static void bothOutside() {
        int[][] askedAndDue = {{MIN, MIN, 2, 1}, {MIN, MAX, 2, 40}, {MAX, MIN, 12, 1}, {MAX, MAX, 12, 40}, {0, 0, 2, 1}};
        for (int[] a : askedAndDue) {
            FlowProofs x = new FlowProofs(a[0], a[1]);
            DUE.is("count(0) of (" + a[0] + ", " + a[1] + ")", a[2], x.count(0));
            for (int e = 0; e < a[3]; e++) DUE.is("edge", e, x.edge(0, 1, 1, 1));
            DUE.is("edge beyond the last of (" + a[0] + ", " + a[1] + ")", FlowProofs.BAD, x.edge(0, 1, 1, 1));
        }
    }

    // Promise 1, "No edges".
    private static void noEdges() {
        for (int m : new int[] {1, 7, 40}) {
            FlowProofs x = new FlowProofs(3, m);
            DUE.is("count(1)", 0, x.count(1));
            for (int e = 0; e < m; e++) DUE.is("flow(" + e + ")", FlowProofs.BAD, x.flow(e));
            x.ends(0, 1);
            DUE.is("no way by none", FlowProofs.DONE, x.run(0));
        }
    }

    // Promise 1, "no source and sink": and so nothing is solved, and nothing flows.
    private static void noEnds() {
        FlowProofs x = new FlowProofs(3, 3);
        DUE.is("run(1)", FlowProofs.NO_ENDS, x.run(1));
        DUE.is("next()", FlowProofs.BAD, x.next());
        DUE.is("value()", FlowProofs.BAD, x.value());
        DUE.is("cost()", 0, x.cost());
        DUE.is("potential(0)", FlowProofs.BAD, x.potential(0));
        DUE.is("inCut(0)", false, x.inCut(0));
        DUE.is("check()", false, x.check());
        DUE.is("count(2)", 0, x.count(2));
        DUE.is("count(3)", 0, x.count(3));
    }

    // Promise 1, "No edges, no source and sink": whatever other objects have; and those keep what they have.
    private static void besideOthers() {
        String alone = Answers.nowAndLater(new FlowProofs(4, 6));
        for (State state : State.all()) {
            String otherAlone = Answers.nowAndLater(state.make());
            FlowProofs other = state.make();
            FlowProofs x = new FlowProofs(4, 6);
            DUE.same("a new object beside: " + state.name(), alone, Answers.nowAndLater(x));
            DUE.same(state.name() + ", beside a new object", otherAlone, Answers.nowAndLater(other));
        }
    }
}
