/** Promise 5: value. */
public final class Promise05ValueTest {
    private static final Due DUE = new Due("Promise 5");

    public static void main(String[] args) {
        DUE.holds("'How much flows, if it is solved'", Promise05ValueTest::howMuch);
        DUE.holds("'How much flows': 0, when there is no way", Promise05ValueTest::nothingFlows);
        DUE.holds("'How much flows': as much as forty edges can have", Promise05ValueTest::mostOfAll);
        DUE.holds("'BAD: not': no ends", () -> bad(State.withoutEnds()));
        DUE.holds("'BAD: not': a circle of negative cost", () -> bad(State.withCircle()));
        DUE.holds("'BAD: not': not yet, or no more after an edge or ends", () -> bad(State.underWay()));
        DUE.holds("'BAD: not': no way, but not run", Promise05ValueTest::notRun);
        DUE.finish();
    }

    // Promise 5, "How much flows, if it is solved": asked again, too, and arcs back do not count twice.
    private static void howMuch() {
        FlowProofs x = Nets.solved();
        DUE.is("value", 6, x.value());
        DUE.is("value again", 6, x.value());
        FlowProofs many = Nets.manyRounds();
        many.run(38);
        DUE.is("many rounds: value", 38, many.value());
    }

    // Promise 5, "How much flows": nothing.
    private static void nothingFlows() {
        FlowProofs x = new FlowProofs(3, 3);
        x.edge(0, 1, 5, 5);
        x.ends(0, 2);
        x.run(1);
        DUE.is("no way: value", 0, x.value());
        FlowProofs empty = new FlowProofs(2, 1);
        empty.ends(1, 0);
        empty.run(0);
        DUE.is("no edges: value", 0, empty.value());
    }

    // Promise 5, "How much flows".
    private static void mostOfAll() {
        FlowProofs x = new FlowProofs(2, 40);
        for (int e = 0; e < 40; e++) x.edge(0, 1, 1_000_000, e);
        x.ends(0, 1);
        x.run(39);
        DUE.is("one too few: value", FlowProofs.BAD, x.value());
        x.run(1);
        DUE.is("value", 40_000_000, x.value());
    }

    // Promise 5, "BAD: not".
    private static void bad(Iterable<State> states) {
        for (State state : states) DUE.is(state.name() + ": value", FlowProofs.BAD, state.make().value());
    }

    // Promise 5, "BAD: not": what is not run is not solved.
    private static void notRun() {
        FlowProofs x = new FlowProofs(2, 1);
        x.ends(0, 1);
        DUE.is("before: value", FlowProofs.BAD, x.value());
        x.run(0);
        DUE.is("after: value", 0, x.value());
    }
}
