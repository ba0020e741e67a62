public final class Promise04RunTest {
    private static final Due DUE = new Due();

    public static void main(String[] args) {
        roundsAreCounted();
        solvedAsSoonAsThereIsNoWay();
        wrongRoundsAreRefused();
        circlesAreTold();
        fewerArcsWin();
        lesserArcWins();
        lesserArcBackWins();
        DUE.finish();
    }

    private static void flowsAre(String name, FlowProofs x, int... flows) {
        for (int e = 0; e < flows.length; e++) DUE.is(name + ": flow(" + e + ")", flows[e], x.flow(e));
    }

    private static void roundsAreCounted() {
        FlowProofs x = Nets.withArcBack();
        DUE.is("run(0)", FlowProofs.MORE, x.run(0));
        flowsAre("none yet", x, 0, 0, 0, 0, 0);
        DUE.is("run(1)", FlowProofs.MORE, x.run(1));
        flowsAre("one round", x, 4, 0, 4, 0, 4);
        DUE.is("run(0) again", FlowProofs.MORE, x.run(0));
        flowsAre("still one round", x, 4, 0, 4, 0, 4);
        DUE.is("run(7)", FlowProofs.DONE, x.run(7));
        flowsAre("solved", x, 4, 2, 2, 2, 4);
        DUE.is("count(2)", 2, x.count(2));
        DUE.is("run(0), solved before", FlowProofs.DONE, x.run(0));
        DUE.is("run(10000), solved before", FlowProofs.DONE, x.run(10_000));
        DUE.is("count(2) stays", 2, x.count(2));
    }

    private static void solvedAsSoonAsThereIsNoWay() {
        FlowProofs x = Nets.withArcBack();
        DUE.is("run(2), just enough", FlowProofs.DONE, x.run(2));
        DUE.is("value", 6, x.value());
        FlowProofs empty = new FlowProofs(2, 1);
        empty.ends(0, 1);
        DUE.is("run(0), no way at all", FlowProofs.DONE, empty.run(0));
        DUE.is("value of nothing", 0, empty.value());
        FlowProofs closed = new FlowProofs(2, 1);
        closed.edge(0, 1, 0, 1);
        closed.ends(0, 1);
        DUE.is("run(1), capacity 0", FlowProofs.DONE, closed.run(1));
        DUE.is("no round was done", 0, closed.count(2));
    }

    private static void wrongRoundsAreRefused() {
        int[] wrong = {-1, 10_001, Integer.MIN_VALUE, Integer.MAX_VALUE};
        FlowProofs[] states = {new FlowProofs(3, 3), Nets.withArcBack(), Nets.solved(), Nets.withCircle()};
        for (FlowProofs x : states) {
            for (int rounds : wrong) DUE.is("run(" + rounds + ")", FlowProofs.BAD, x.run(rounds));
            DUE.is("no round done by it", x.value() == 6 ? 2 : 0, x.count(2));
        }
    }

    private static void circlesAreTold() {
        FlowProofs x = Nets.withCircle();
        DUE.is("circle: run(0)", FlowProofs.CIRCLE, x.run(0));
        DUE.is("circle: run(5)", FlowProofs.CIRCLE, x.run(5));
        DUE.is("circle: count(2)", 0, x.count(2));
        DUE.is("circle: flow(0)", 0, x.flow(0));
        x.ends(1, 0);
        DUE.is("circle, other ends", FlowProofs.CIRCLE, x.run(5));
        x.edge(0, 4, 1, 1);
        DUE.is("circle, one more edge", FlowProofs.CIRCLE, x.run(5));

        FlowProofs noEnds = new FlowProofs(2, 2);
        noEnds.edge(0, 1, 1, -1);
        noEnds.edge(1, 0, 1, 0);
        DUE.is("circle without ends", FlowProofs.NO_ENDS, noEnds.run(1));

        FlowProofs closed = new FlowProofs(2, 3);
        closed.edge(0, 1, 1, -1);
        closed.edge(1, 0, 0, 0);
        closed.ends(0, 1);
        DUE.is("circle by capacity 0", FlowProofs.DONE, closed.run(1));
        closed.edge(1, 0, 1, 1);
        DUE.is("circle of cost 0", FlowProofs.DONE, closed.run(1));
        DUE.is("value with a circle of cost 0", 1, closed.value());

        longestCircle();
    }

    // All twelve nodes, against the order in which the edges stand.
    private static void longestCircle() {
        FlowProofs x = new FlowProofs(12, 40);
        for (int v = 0; v < 12; v++) x.edge((v + 1) % 12, v, 1, v == 5 ? -11 : 1);
        x.ends(0, 1);
        DUE.is("long circle of cost 0", FlowProofs.DONE, x.run(1));
        x.edge(6, 5, 1, -12);
        DUE.is("long circle of cost -1", FlowProofs.CIRCLE, x.run(1));
    }

    private static void fewerArcsWin() {
        FlowProofs x = new FlowProofs(4, 5);
        x.edge(0, 1, 1, 1);
        x.edge(1, 2, 1, 1);
        x.edge(2, 3, 1, 1);
        x.edge(0, 2, 1, 2);
        x.edge(0, 3, 1, 4);
        x.ends(0, 3);
        DUE.is("run(1)", FlowProofs.MORE, x.run(1));
        flowsAre("fewer arcs, but less cost first", x, 0, 0, 1, 1, 0);

        FlowProofs turned = new FlowProofs(4, 5);
        turned.edge(2, 3, 1, 1);
        turned.edge(1, 2, 1, 1);
        turned.edge(0, 1, 1, 1);
        turned.edge(0, 2, 1, 2);
        turned.ends(0, 3);
        turned.run(1);
        flowsAre("fewer arcs, though of greater numbers", turned, 1, 0, 0, 1);
    }

    private static void lesserArcWins() {
        FlowProofs x = new FlowProofs(5, 8);
        x.edge(2, 4, 1, 0);
        x.edge(3, 4, 1, 0);
        x.edge(1, 3, 3, 0);
        x.edge(1, 2, 3, 0);
        x.edge(0, 1, 3, 0);
        x.edge(3, 4, 1, 0);
        x.ends(0, 4);
        x.run(1);
        flowsAre("the first difference decides", x, 0, 1, 1, 0, 1, 0);
        x.run(1);
        flowsAre("then the twin edge", x, 0, 1, 2, 0, 2, 1);
        DUE.is("run(1)", FlowProofs.DONE, x.run(1));
        flowsAre("then the other node", x, 1, 1, 2, 1, 3, 1);
    }

    // After the first round two ways of cost 3 and three arcs begin with edge 3; they go on
    // by the arc back of edge 1 (arc 3) or by edge 4 (arc 8).
    private static void lesserArcBackWins() {
        FlowProofs x = new FlowProofs(6, 9);
        x.edge(0, 1, 1, 0);
        x.edge(1, 2, 1, 0);
        x.edge(2, 5, 1, 0);
        x.edge(0, 2, 1, 1);
        x.edge(2, 3, 1, 0);
        x.edge(1, 5, 1, 2);
        x.edge(3, 5, 1, 2);
        x.ends(0, 5);
        x.run(1);
        flowsAre("first", x, 1, 1, 1, 0, 0, 0, 0);
        DUE.is("next", 3, x.next());
        DUE.is("run(1)", FlowProofs.DONE, x.run(1));
        flowsAre("by the arc back", x, 1, 0, 1, 1, 0, 1, 0);
    }
}
