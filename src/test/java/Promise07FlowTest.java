/** Promise 7: flow. */
public final class Promise07FlowTest {
    private static final Due DUE = new Due("Promise 7");
    private static final int MIN = Integer.MIN_VALUE, MAX = Integer.MAX_VALUE;

    public static void main(String[] args) {
        DUE.holds("'The flow of an edge now (also while there is more to do)'", Promise07FlowTest::roundByRound);
        DUE.holds("'The flow of an edge now': 0 without ends", () -> zero(State.withoutEnds()));
        DUE.holds("'The flow of an edge now': 0 with a circle", () -> zero(State.withCircle()));
        DUE.holds("'The flow of an edge now': from 0 to the greatest capacity", Promise07FlowTest::leastAndGreatest);
        DUE.holds("'BAD: none such': below 0", Promise07FlowTest::tooSmall);
        DUE.holds("'BAD: none such': one that has not come", Promise07FlowTest::hasNotCome);
        DUE.holds("'BAD: none such': beyond m", Promise07FlowTest::beyondAll);
        DUE.finish();
    }

    // Promise 7, "The flow of an edge now (also while there is more to do)".
    private static void roundByRound() {
        FlowProofs x = Nets.withArcBack();
        int[][] afterRounds = {{0, 0, 0, 0, 0}, {4, 0, 4, 0, 4}, {4, 2, 2, 2, 4}};
        for (int round = 0; round < afterRounds.length; round++) {
            for (int e = 0; e < 5; e++) DUE.is("flow(" + e + ") after " + round, afterRounds[round][e], x.flow(e));
            x.run(1);
        }
        for (int e = 0; e < 5; e++) DUE.is("flow(" + e + ") when solved before", afterRounds[2][e], x.flow(e));
    }

    // Promise 7, "The flow of an edge now": there is none.
    private static void zero(Iterable<State> states) {
        for (State state : states) {
            FlowProofs x = state.make();
            for (int e = 0; e < x.count(1); e++) DUE.is(state.name() + ": flow(" + e + ")", 0, x.flow(e));
        }
    }

    // Promise 7, "The flow of an edge now".
    private static void leastAndGreatest() {
        FlowProofs x = new FlowProofs(2, 40);
        for (int e = 0; e < 40; e++) x.edge(e % 2, 1 - e % 2, 1_000_000, 1);
        x.ends(0, 1);
        x.run(10_000);
        for (int e = 0; e < 40; e++) DUE.is("flow(" + e + ")", e % 2 == 0 ? 1_000_000 : 0, x.flow(e));
    }

    private static void refused(int e) {
        Refused.bad(DUE, "flow(" + e + ")", x -> x.flow(e));
    }

    // Promise 7, "BAD: none such".
    private static void tooSmall() {
        for (int e : new int[] {-1, -2, MIN}) refused(e);
    }

    // Promise 7, "BAD: none such": edges that there is room for, but that are not there; 0, when there are none.
    private static void hasNotCome() {
        Refused.bad(DUE, "flow of the next edge", x -> x.flow(x.count(1)));
        FlowProofs x = new FlowProofs(3, 10);
        for (int e = 0; e < 10; e++) {
            for (int none = e; none < 10; none++) DUE.is("flow(" + none + ") of " + e, FlowProofs.BAD, x.flow(none));
            x.edge(0, 1, 1, 1);
            DUE.is("flow(" + e + ") when it has come", 0, x.flow(e));
        }
        x.edge(0, 3, 1, 1);
        DUE.is("flow(10), which was refused", FlowProofs.BAD, x.flow(10));
    }

    // Promise 7, "BAD: none such".
    private static void beyondAll() {
        for (int e : new int[] {8, 10, 40, 41, 80, MAX}) refused(e);
        FlowProofs full = new FlowProofs(2, 40);
        for (int e = 0; e < 40; e++) full.edge(0, 1, 1, 1);
        DUE.is("flow(39) of 40", 0, full.flow(39));
        DUE.is("flow(40) of 40", FlowProofs.BAD, full.flow(40));
    }
}
