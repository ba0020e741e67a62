/** Promise 12: count. */
public final class Promise12CountTest {
    private static final Due DUE = new Due("Promise 12");

    public static void main(String[] args) {
        DUE.holds("'0 nodes'", Promise12CountTest::nodes);
        DUE.holds("'1 edges'", Promise12CountTest::edges);
        DUE.holds("'2 rounds done for this flow'", Promise12CountTest::rounds);
        DUE.holds("'2 rounds done for this flow': 0 after an edge, after ends", Promise12CountTest::roundsBeginAnew);
        DUE.holds("'3 how much flows now'", Promise12CountTest::flows);
        DUE.holds("'3 how much flows now': 0 after an edge, after ends", Promise12CountTest::flowsBeginAnew);
        DUE.holds("'2 ..', '3 ..': 0 without ends", () -> nothingDone(State.withoutEnds()));
        DUE.holds("'2 ..', '3 ..': 0 with a circle", () -> nothingDone(State.withCircle()));
        DUE.holds("'BAD: another number': below 0", Promise12CountTest::tooSmall);
        DUE.holds("'BAD: another number': above 3", Promise12CountTest::tooLarge);
        DUE.finish();
    }

    // Promise 12, "0 nodes": whatever is done.
    private static void nodes() {
        for (int n = 2; n <= 12; n++) {
            FlowProofs x = new FlowProofs(n, 2);
            DUE.is("new: count(0)", n, x.count(0));
            x.edge(0, 1, 1, 1);
            x.ends(0, 1);
            x.run(1);
            DUE.is("solved: count(0)", n, x.count(0));
        }
    }

    // Promise 12, "1 edges": those that are there, not those that may come.
    private static void edges() {
        FlowProofs x = new FlowProofs(2, 40);
        for (int e = 0; e < 40; e++) {
            DUE.is("count(1)", e, x.count(1));
            x.edge(0, 1, 1, 1);
            x.edge(0, 1, 1, 10_001);
        }
        DUE.is("all: count(1)", 40, x.count(1));
        x.edge(0, 1, 1, 1);
        DUE.is("one refused: count(1)", 40, x.count(1));
    }

    // Promise 12, "2 rounds done for this flow": those that were done, not those that were allowed.
    private static void rounds() {
        FlowProofs x = Nets.withArcBack();
        int[][] runsAndRounds = {{0, 0}, {1, 1}, {0, 1}, {10_000, 2}, {10_000, 2}, {0, 2}};
        for (int[] r : runsAndRounds) {
            x.run(r[0]);
            DUE.is("count(2) after run(" + r[0] + ")", r[1], x.count(2));
        }
        FlowProofs none = new FlowProofs(2, 1);
        none.ends(0, 1);
        none.run(10_000);
        DUE.is("no way: count(2)", 0, none.count(2));
    }

    // Promise 12, "2 rounds done for this flow": not for one before.
    private static void roundsBeginAnew() {
        FlowProofs x = Nets.solved();
        x.edge(1, 0, 1, 10_000);
        DUE.is("an edge came: count(2)", 0, x.count(2));
        x.run(1);
        DUE.is("a round: count(2)", 1, x.count(2));
        x.ends(0, 3);
        DUE.is("ends came: count(2)", 0, x.count(2));
        x.run(9);
        DUE.is("two rounds: count(2)", 2, x.count(2));
    }

    // Promise 12, "3 how much flows now": also while there is more to do.
    private static void flows() {
        FlowProofs x = Nets.withArcBack();
        for (int due : new int[] {0, 4, 6, 6}) {
            DUE.is("count(3)", due, x.count(3));
            x.run(1);
        }
        FlowProofs most = new FlowProofs(2, 40);
        for (int e = 0; e < 40; e++) most.edge(0, 1, 1_000_000, 0);
        most.ends(0, 1);
        most.run(39);
        DUE.is("all but one: count(3)", 39_000_000, most.count(3));
        most.run(1);
        DUE.is("all: count(3)", 40_000_000, most.count(3));
    }

    // Promise 12, "3 how much flows now".
    private static void flowsBeginAnew() {
        FlowProofs x = Nets.solved();
        x.edge(1, 0, 1, 10_000);
        DUE.is("an edge came: count(3)", 0, x.count(3));
        x.run(1);
        DUE.is("a round: count(3)", 4, x.count(3));
        x.ends(0, 3);
        DUE.is("ends came: count(3)", 0, x.count(3));
    }

    // Promise 12, "2 rounds done for this flow, 3 how much flows now": there is no flow.
    private static void nothingDone(Iterable<State> states) {
        for (State state : states) {
            FlowProofs x = state.make();
            x.run(10_000);
            DUE.is(state.name() + ": count(2)", 0, x.count(2));
            DUE.is(state.name() + ": count(3)", 0, x.count(3));
        }
    }

    private static void refused(int what) {
        Refused.bad(DUE, "count(" + what + ")", x -> x.count(what));
    }

    // Promise 12, "BAD: another number".
    private static void tooSmall() {
        for (int what : new int[] {-1, -2, -4, Integer.MIN_VALUE}) refused(what);
    }

    // Promise 12, "BAD: another number": also those that are 0 .. 3, if only their last bits are looked at.
    private static void tooLarge() {
        for (int what : new int[] {4, 5, 6, 7, 8, 256, 65_536, Integer.MAX_VALUE}) refused(what);
    }
}
