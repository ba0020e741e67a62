/** Promise 11: next. */
public final class Promise11NextTest {
    private static final Due DUE = new Due("Promise 11");

    public static void main(String[] args) {
        DUE.holds("'the cost of the best way now': round by round", Promise11NextTest::roundByRound);
        DUE.holds("'the cost of the best way now': before the first run", Promise11NextTest::beforeTheFirstRun);
        DUE.holds("'the cost of the best way now': the least and the greatest", Promise11NextTest::leastAndGreatest);
        DUE.holds("'What one more unit would cost': it is not sent", Promise11NextTest::asksOnly);
        DUE.holds("'BAD (which may be one, too)'", Promise11NextTest::minusOneIsOne);
        DUE.holds("'BAD: no ends'", () -> bad(State.withoutEnds()));
        DUE.holds("'BAD: .. CIRCLE'", () -> bad(State.withCircle()));
        DUE.holds("'BAD: .. solved'", () -> bad(State.solved()));
        DUE.holds("'BAD: .. solved': no way, but not run", Promise11NextTest::noWay);
        DUE.finish();
    }

    // Promise 11, "(that is, of the next round): the cost of the best way now".
    private static void roundByRound() {
        FlowProofs x = Nets.withArcBack();
        for (int due : new int[] {3, 11, FlowProofs.BAD, FlowProofs.BAD}) {
            DUE.is("next", due, x.next());
            x.run(1);
        }
    }

    // Promise 11, "the cost of the best way now": also after an edge and after ends.
    private static void beforeTheFirstRun() {
        FlowProofs x = Nets.withArcBack();
        DUE.is("not run: next", 3, x.next());
        DUE.is("run(0)", FlowProofs.MORE, x.run(0));
        DUE.is("no round: next", 3, x.next());
        x.edge(0, 3, 1, 2);
        DUE.is("an edge came: next", 2, x.next());
        x.ends(1, 3);
        DUE.is("ends changed: next", 2, x.next());
        x.ends(1, 2);
        DUE.is("ends changed again: next", 1, x.next());
    }

    // Promise 11, "the cost of the best way now".
    private static void leastAndGreatest() {
        DUE.is("eleven times 10,000", 110_000, Nets.longestChain(1, 10_000).next());
        DUE.is("eleven times - 10,000", -110_000, Nets.longestChain(1_000_000, -10_000).next());
        DUE.is("eleven times 0", 0, Nets.longestChain(1, 0).next());
    }

    // Promise 11, "What one more unit would cost".
    private static void asksOnly() {
        for (State state : State.all()) {
            FlowProofs x = state.make();
            int first = x.next();
            for (int again = 0; again < 5; again++) DUE.is(state.name() + ": next again", first, x.next());
            DUE.same(state.name() + ": after next", Answers.nowAndLater(state.make()), Answers.nowAndLater(x));
        }
    }

    // Promise 11, "BAD (which may be one, too)": a cost of - 1 is answered, and there is more to do.
    private static void minusOneIsOne() {
        FlowProofs x = new FlowProofs(3, 2);
        x.edge(0, 1, 1, -10_000);
        x.edge(1, 2, 1, 9_999);
        x.ends(0, 2);
        DUE.is("next", -1, x.next());
        DUE.is("run(0)", FlowProofs.MORE, x.run(0));
        DUE.is("run(1)", FlowProofs.DONE, x.run(1));
        DUE.is("cost", -1, x.cost());
    }

    // Promise 11, "BAD .. no ends, CIRCLE, solved".
    private static void bad(Iterable<State> states) {
        for (State state : states) DUE.is(state.name() + ": next", FlowProofs.BAD, state.make().next());
    }

    // Promise 11, "BAD .. solved": when there is no way it has no cost; asking does not solve.
    private static void noWay() {
        FlowProofs x = new FlowProofs(2, 2);
        x.edge(0, 1, 1, 5);
        x.ends(1, 0);
        DUE.is("next", FlowProofs.BAD, x.next());
        DUE.is("value", FlowProofs.BAD, x.value());
        x.ends(0, 1);
        DUE.is("the other way round: next", 5, x.next());
    }
}
