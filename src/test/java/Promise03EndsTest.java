/** Promise 3: ends. */
public final class Promise03EndsTest {
    private static final Due DUE = new Due("Promise 3");
    private static final int MIN = Integer.MIN_VALUE, MAX = Integer.MAX_VALUE;

    public static void main(String[] args) {
        DUE.holds("'Source and sink': any two nodes", Promise03EndsTest::anyTwoNodes);
        DUE.holds("'Source and sink': the one is not the other", Promise03EndsTest::turned);
        DUE.holds("'Source and sink': without edges", Promise03EndsTest::withoutEdges);
        DUE.holds("'What was solved is gone': all of it, when it was solved", Promise03EndsTest::solvedIsGone);
        DUE.holds("'What was solved is gone': by the same ends, too", Promise03EndsTest::goneByTheSameEnds);
        DUE.holds("'What was solved is gone': rounds that were done, too", Promise03EndsTest::roundsAreGone);
        DUE.holds("'What was solved is gone': edges are not", Promise03EndsTest::edgesStay);
        DUE.holds("'False: none such': source", Promise03EndsTest::noSuchSource);
        DUE.holds("'False: none such': sink", Promise03EndsTest::noSuchSink);
        DUE.holds("'False: .. the same'", Promise03EndsTest::theSame);
        DUE.holds("'False': there are still no ends, or those before", Promise03EndsTest::refusedEndsAreNone);
        DUE.finish();
    }

    // Promise 3, "Source and sink": each pair of nodes but the same.
    private static void anyTwoNodes() {
        FlowProofs x = new FlowProofs(12, 40);
        for (int v = 0; v < 12; v++) x.edge(v, (v + 1) % 12, 5, 1);
        for (int source = 0; source < 12; source++) {
            for (int sink = 0; sink < 12; sink++) {
                boolean want = source != sink;
                DUE.is("ends(" + source + ", " + sink + ")", want, x.ends(source, sink));
                if (want) DUE.is("next from " + source + " to " + sink, (sink - source + 12) % 12, x.next());
            }
        }
    }

    // Promise 3, "Source and sink": in this order.
    private static void turned() {
        FlowProofs x = new FlowProofs(2, 1);
        x.edge(0, 1, 3, 7);
        DUE.is("ends(1, 0)", true, x.ends(1, 0));
        DUE.is("run", FlowProofs.DONE, x.run(9));
        DUE.is("against the edge: value", 0, x.value());
        DUE.is("ends(0, 1)", true, x.ends(0, 1));
        DUE.is("run", FlowProofs.DONE, x.run(9));
        DUE.is("along the edge: value", 3, x.value());
    }

    // Promise 3, "Source and sink": edges may come later, and the ends stay.
    private static void withoutEdges() {
        FlowProofs x = new FlowProofs(3, 2);
        DUE.is("ends", true, x.ends(2, 0));
        x.edge(2, 1, 4, 1);
        x.edge(1, 0, 4, 1);
        DUE.is("run", FlowProofs.DONE, x.run(1));
        DUE.is("value", 4, x.value());
    }

    // Promise 3, "What was solved is gone": in every state in which it was, by ends of all kinds.
    private static void solvedIsGone() {
        int[][] ends = {{0, 1}, {1, 0}};
        for (State state : State.solved()) {
            for (int[] e : ends) {
                FlowProofs x = state.make();
                DUE.is(state.name() + ": ends", true, x.ends(e[0], e[1]));
                Gone.all(DUE, state.name(), x);
            }
        }
    }

    // Promise 3, "What was solved is gone": the document does not say 'other ends'.
    private static void goneByTheSameEnds() {
        FlowProofs x = Nets.solved();
        DUE.is("ends", true, x.ends(0, 3));
        Gone.all(DUE, "the same ends", x);
        DUE.is("next", 3, x.next());
        DUE.is("run(0)", FlowProofs.MORE, x.run(0));
    }

    // Promise 3, "What was solved is gone": as far as it was, when there was more to do.
    private static void roundsAreGone() {
        FlowProofs x = Nets.withArcBack();
        DUE.is("run(1)", FlowProofs.MORE, x.run(1));
        DUE.is("ends", true, x.ends(0, 2));
        Gone.all(DUE, "one round, then ends", x);
        DUE.is("run(1)", FlowProofs.MORE, x.run(1));
        DUE.is("count(2)", 1, x.count(2));
        DUE.is("count(3)", 4, x.count(3));
    }

    // Promise 3, "What was solved is gone": what it was solved for is not.
    private static void edgesStay() {
        FlowProofs x = Nets.solved();
        x.ends(0, 2);
        DUE.is("count(1)", 5, x.count(1));
        DUE.is("run", FlowProofs.DONE, x.run(10));
        DUE.is("value", 6, x.value());
        DUE.is("cost", 18, x.cost());
        x.ends(0, 3);
        DUE.is("run", FlowProofs.DONE, x.run(10));
        DUE.is("value as before", 6, x.value());
        DUE.is("cost as before", 34, x.cost());
    }

    private static void refused(int source, int sink) {
        Refused.no(DUE, "ends(" + source + ", " + sink + ")", x -> x.ends(source, sink));
    }

    // Promise 3, "False: none such".
    private static void noSuchSource() {
        for (int source : new int[] {-1, 12, MIN, MAX}) refused(source, 1);
        Refused.no(DUE, "ends(n, 0)", x -> x.ends(x.count(0), 0));
    }

    // Promise 3, "False: none such".
    private static void noSuchSink() {
        for (int sink : new int[] {-1, 12, MIN, MAX}) refused(1, sink);
        Refused.no(DUE, "ends(0, n)", x -> x.ends(0, x.count(0)));
    }

    // Promise 3, "False: .. the same": nodes that there are, and those that there are not.
    private static void theSame() {
        refused(0, 0);
        refused(1, 1);
        refused(-1, -1);
        Refused.no(DUE, "ends(n - 1, n - 1)", x -> x.ends(x.count(0) - 1, x.count(0) - 1));
    }

    // Promise 3, "False": half of a wrong pair is not kept.
    private static void refusedEndsAreNone() {
        FlowProofs x = new FlowProofs(3, 1);
        x.edge(0, 1, 5, 1);
        DUE.is("ends(0, 3)", false, x.ends(0, 3));
        DUE.is("ends(-1, 1)", false, x.ends(-1, 1));
        DUE.is("run", FlowProofs.NO_ENDS, x.run(1));
        DUE.is("ends(0, 1)", true, x.ends(0, 1));
        DUE.is("ends(2, 3)", false, x.ends(2, 3));
        DUE.is("ends(3, 2)", false, x.ends(3, 2));
        DUE.is("ends(2, 2)", false, x.ends(2, 2));
        DUE.is("run", FlowProofs.DONE, x.run(1));
        DUE.is("value by the ends before", 5, x.value());
    }
}
