/** Promise 4: run. */
public final class Promise04RunTest {
    private static final Due DUE = new Due("Promise 4");

    public static void main(String[] args) {
        DUE.holds("'At most so many rounds'", Promise04RunTest::atMostSoMany);
        DUE.holds("'At most so many rounds': 0 do none", Promise04RunTest::noRounds);
        DUE.holds("'At most so many rounds': 10,000 solve it", Promise04RunTest::greatestRounds);
        DUE.holds("'DONE, if it is solved': by just so many rounds", Promise04RunTest::justEnough);
        DUE.holds("'DONE, if it is solved': 0 rounds, when there is no way", Promise04RunTest::noRoundIsNeeded);
        DUE.holds("'DONE, if it is solved (also before)'", Promise04RunTest::solvedBefore);
        DUE.holds("'MORE, if not yet': by one round too few", Promise04RunTest::oneTooFew);
        DUE.holds("'the flow so far stays, and the next run() goes on'", Promise04RunTest::goesOn);
        DUE.holds("'NO_ENDS'", Promise04RunTest::noEnds);
        DUE.holds("'CIRCLE (then, and ever'", Promise04RunTest::circleForEver);
        DUE.holds("'until an edge comes or ends change': then anew", Promise04RunTest::circleLookedForAnew);
        DUE.holds("'BAD: not 0 .. 10,000 rounds': too few", Promise04RunTest::tooFewRounds);
        DUE.holds("'BAD: not 0 .. 10,000 rounds': too many", Promise04RunTest::tooManyRounds);
        DUE.finish();
    }

    private static void flowsAre(String name, FlowProofs x, int... flows) {
        for (int e = 0; e < flows.length; e++) DUE.is(name + ": flow(" + e + ")", flows[e], x.flow(e));
    }

    // Promise 4, "At most so many rounds": 38 are needed.
    private static void atMostSoMany() {
        for (int rounds = 1; rounds <= 50; rounds++) {
            FlowProofs x = Nets.manyRounds();
            DUE.is("run(" + rounds + ")", rounds < 38 ? FlowProofs.MORE : FlowProofs.DONE, x.run(rounds));
            DUE.is("rounds done by run(" + rounds + ")", Math.min(rounds, 38), x.count(2));
            DUE.is("what flows by run(" + rounds + ")", Math.min(rounds, 38), x.count(3));
        }
    }

    // Promise 4, "At most so many rounds": 0 of them are taken, and do nothing.
    private static void noRounds() {
        FlowProofs x = Nets.withArcBack();
        DUE.is("run(0)", FlowProofs.MORE, x.run(0));
        DUE.is("run(0) again", FlowProofs.MORE, x.run(0));
        flowsAre("none", x, 0, 0, 0, 0, 0);
        DUE.is("count(2)", 0, x.count(2));
        DUE.is("run(1)", FlowProofs.MORE, x.run(1));
        DUE.is("run(0) between", FlowProofs.MORE, x.run(0));
        flowsAre("one", x, 4, 0, 4, 0, 4);
        DUE.is("count(2)", 1, x.count(2));
    }

    // Promise 4, "At most so many rounds": 10,000 of them are taken.
    private static void greatestRounds() {
        FlowProofs x = Nets.manyRounds();
        DUE.is("run(10000)", FlowProofs.DONE, x.run(10_000));
        DUE.is("count(2)", 38, x.count(2));
        FlowProofs other = Nets.manyRounds();
        DUE.is("run(9999)", FlowProofs.DONE, other.run(9_999));
        DUE.same("10,000 and 9,999", Answers.now(other), Answers.now(x));
    }

    // Promise 4, "DONE, if it is solved": when the last way was taken there is no way, and so it is solved.
    private static void justEnough() {
        FlowProofs x = Nets.withArcBack();
        DUE.is("run(2)", FlowProofs.DONE, x.run(2));
        DUE.is("value", 6, x.value());
        FlowProofs byOne = Nets.withArcBack();
        DUE.is("run(1)", FlowProofs.MORE, byOne.run(1));
        DUE.is("run(1), the last", FlowProofs.DONE, byOne.run(1));
        DUE.same("at once and one by one", Answers.now(x), Answers.now(byOne));
    }

    // Promise 4, "DONE, if it is solved": without a way it is, without a round.
    private static void noRoundIsNeeded() {
        FlowProofs empty = new FlowProofs(2, 1);
        empty.ends(0, 1);
        DUE.is("no edges: run(0)", FlowProofs.DONE, empty.run(0));
        DUE.is("no edges: value", 0, empty.value());
        FlowProofs closed = new FlowProofs(2, 1);
        closed.edge(0, 1, 0, 1);
        closed.ends(0, 1);
        DUE.is("capacity 0: run(0)", FlowProofs.DONE, closed.run(0));
        DUE.is("capacity 0: run(1)", FlowProofs.DONE, closed.run(1));
        DUE.is("capacity 0: count(2)", 0, closed.count(2));
    }

    // Promise 4, "DONE, if it is solved (also before)": and nothing more is done.
    private static void solvedBefore() {
        for (State state : State.solved()) {
            for (int rounds : new int[] {0, 1, 10_000}) {
                FlowProofs x = state.make();
                String before = Answers.now(x);
                DUE.is(state.name() + ": run(" + rounds + ")", FlowProofs.DONE, x.run(rounds));
                DUE.same(state.name() + ": after run(" + rounds + ")", before, Answers.now(x));
            }
        }
    }

    // Promise 4, "MORE, if not yet".
    private static void oneTooFew() {
        for (State state : State.underWay()) {
            DUE.is(state.name() + ": run(0)", FlowProofs.MORE, state.make().run(0));
        }
        FlowProofs x = Nets.manyRounds();
        DUE.is("run(37)", FlowProofs.MORE, x.run(37));
        DUE.is("value", FlowProofs.BAD, x.value());
        DUE.is("run(1)", FlowProofs.DONE, x.run(1));
    }

    // Promise 4, "the flow so far stays, and the next run() goes on": in steps of any size it is the same flow.
    private static void goesOn() {
        String want = Answers.now(solvedInSteps(10_000));
        for (int step = 1; step <= 40; step++) DUE.same("steps of " + step, want, Answers.now(solvedInSteps(step)));
        FlowProofs x = Nets.withArcBack();
        x.run(1);
        flowsAre("so far", x, 4, 0, 4, 0, 4);
        x.run(1);
        flowsAre("gone on", x, 4, 2, 2, 2, 4);
    }

    private static FlowProofs solvedInSteps(int step) {
        FlowProofs x = Nets.manyRounds();
        for (int done = 0; done < 38; done += step) {
            DUE.is("run(" + step + ") after " + done, done + step < 38 ? FlowProofs.MORE : FlowProofs.DONE, x.run(step));
            DUE.is("rounds in steps of " + step, Math.min(38, done + step), x.count(2));
        }
        return x;
    }

    // Promise 4, "NO_ENDS": for any rounds, with or without edges, after refused ends, with a circle.
    private static void noEnds() {
        for (State state : State.withoutEnds()) {
            for (int rounds : new int[] {0, 1, 10_000}) {
                FlowProofs x = state.make();
                String before = Answers.now(x);
                DUE.is(state.name() + ": run(" + rounds + ")", FlowProofs.NO_ENDS, x.run(rounds));
                DUE.is(state.name() + ": run(" + rounds + ") again", FlowProofs.NO_ENDS, x.run(rounds));
                DUE.same(state.name() + ": after run(" + rounds + ")", before, Answers.now(x));
            }
        }
    }

    // Promise 4, "CIRCLE (then, and ever": for any rounds, and nothing is done.
    private static void circleForEver() {
        for (State state : State.withCircle()) {
            FlowProofs x = state.make();
            String before = Answers.now(x);
            for (int again = 0; again < 5; again++) {
                for (int rounds : new int[] {0, 1, 10_000}) {
                    DUE.is(state.name() + ": run(" + rounds + ")", FlowProofs.CIRCLE, x.run(rounds));
                }
                x.run(-1);
                x.edge(0, 0, 1, 1);
                x.ends(0, 0);
                DUE.same(state.name() + ": after runs", before, Answers.now(x));
            }
        }
    }

    // Promise 4, "until an edge comes or ends change": the circle is looked for again; it is still there, as
    // no edge goes away. Without ends before it is told as soon as there are some.
    private static void circleLookedForAnew() {
        FlowProofs x = Nets.withCircle();
        DUE.is("run", FlowProofs.CIRCLE, x.run(5));
        x.edge(0, 4, 1, 1);
        DUE.is("an edge came: run", FlowProofs.CIRCLE, x.run(5));
        x.ends(1, 0);
        DUE.is("ends changed: run", FlowProofs.CIRCLE, x.run(5));
        FlowProofs later = Nets.circleWithoutEnds();
        DUE.is("no ends: run", FlowProofs.NO_ENDS, later.run(5));
        later.ends(0, 1);
        DUE.is("ends came: run", FlowProofs.CIRCLE, later.run(5));
        FlowProofs closing = new FlowProofs(3, 3);
        closing.edge(0, 1, 1, 1);
        closing.edge(1, 2, 1, 1);
        closing.ends(0, 2);
        DUE.is("no circle: run", FlowProofs.DONE, closing.run(5));
        closing.edge(2, 0, 1, -3);
        DUE.is("the edge that closes it: run", FlowProofs.CIRCLE, closing.run(5));
    }

    // Promise 4, "BAD: not 0 .. 10,000 rounds".
    private static void tooFewRounds() {
        for (int rounds : new int[] {-1, -10_000, Integer.MIN_VALUE}) {
            Refused.bad(DUE, "run(" + rounds + ")", x -> x.run(rounds));
        }
    }

    // Promise 4, "BAD: not 0 .. 10,000 rounds".
    private static void tooManyRounds() {
        for (int rounds : new int[] {10_001, 1_000_000, Integer.MAX_VALUE}) {
            Refused.bad(DUE, "run(" + rounds + ")", x -> x.run(rounds));
        }
    }
}
