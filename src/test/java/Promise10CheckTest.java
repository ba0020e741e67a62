/** Promise 10: check. */
public final class Promise10CheckTest {
    private static final Due DUE = new Due("Promise 10");

    public static void main(String[] args) {
        DUE.holds("'THE THEOREM. Whether, as solved': in every state that is", Promise10CheckTest::solved);
        DUE.holds("'flows are within capacities': full ones, and those of 0", Promise10CheckTest::withinCapacities);
        DUE.holds("'what comes to a node but the ends goes on'", Promise10CheckTest::goesOn);
        DUE.holds("'all edges that leave the cut are full, those that enter it empty'", Promise10CheckTest::cutIsTight);
        DUE.holds("'so that the cut's capacity is the value'", Promise10CheckTest::cutIsTheValue);
        DUE.holds("'for each open arc between nodes of the cut'", Promise10CheckTest::potentialsHold);
        DUE.holds("'False: not solved': no ends", () -> no(State.withoutEnds()));
        DUE.holds("'False: not solved': a circle of negative cost", () -> no(State.withCircle()));
        DUE.holds("'False: not solved': not yet, or no more after an edge or ends", () -> no(State.underWay()));
        DUE.finish();
    }

    // Promise 10, "Whether, as solved": the theorem says that it is so.
    private static void solved() {
        for (State state : State.solved()) {
            FlowProofs x = state.make();
            DUE.is(state.name() + ": check", true, x.check());
            DUE.is(state.name() + ": check again", true, x.check());
        }
        FlowProofs many = Nets.manyRounds();
        for (int round = 0; round < 38; round++) {
            DUE.is("check after " + round + " of 38 rounds", false, many.check());
            many.run(1);
        }
        DUE.is("check after all rounds", true, many.check());
    }

    // Promise 10, "flows are within capacities": the greatest and the least.
    private static void withinCapacities() {
        FlowProofs x = new FlowProofs(12, 40);
        for (int e = 0; e < 40; e++) x.edge(e % 11, e % 11 + 1, e % 3 == 0 ? 0 : 1_000_000, 10_000);
        x.ends(0, 11);
        DUE.is("run", FlowProofs.DONE, x.run(10_000));
        for (int e = 0; e < 40; e++) {
            int most = e % 3 == 0 ? 0 : 1_000_000;
            DUE.is("flow(" + e + ") is within", true, x.flow(e) >= 0 && x.flow(e) <= most);
        }
        DUE.is("check", true, x.check());
    }

    // Promise 10, "what comes to a node but the ends goes on": at the ends it need not, though edges come to
    // the source and leave the sink.
    private static void goesOn() {
        FlowProofs x = new FlowProofs(4, 6);
        x.edge(0, 1, 5, 1);
        x.edge(1, 2, 3, 1);
        x.edge(1, 3, 1, 1);
        x.edge(3, 2, 9, 1);
        x.edge(2, 0, 7, 1);
        x.edge(2, 3, 7, 1);
        x.ends(0, 2);
        DUE.is("run", FlowProofs.DONE, x.run(9));
        DUE.is("comes to node 1, and goes on", x.flow(0), x.flow(1) + x.flow(2));
        DUE.is("comes to node 3, and goes on", x.flow(2) + x.flow(5), x.flow(3));
        DUE.is("value", 4, x.value());
        DUE.is("check", true, x.check());
    }

    // Promise 10, "all edges that leave the cut are full, those that enter it empty": the cut is {0, 1}.
    private static void cutIsTight() {
        FlowProofs x = new FlowProofs(6, 9);
        x.edge(0, 1, 3, 0);
        x.edge(1, 0, 3, 0);
        x.edge(1, 2, 1, -3);
        x.edge(2, 1, 1, 3);
        x.edge(2, 3, 5, 1);
        x.edge(4, 5, 5, -9);
        x.edge(3, 0, 5, 2);
        x.ends(0, 3);
        DUE.is("run", FlowProofs.DONE, x.run(9));
        boolean[] cut = {true, true, false, false, false, false};
        for (int v = 0; v < 6; v++) DUE.is("inCut(" + v + ")", cut[v], x.inCut(v));
        DUE.is("leaves, full: flow(2)", 1, x.flow(2));
        DUE.is("enters, empty: flow(3)", 0, x.flow(3));
        DUE.is("enters, empty: flow(6)", 0, x.flow(6));
        DUE.is("check", true, x.check());
    }

    // Promise 10, "so that the cut's capacity is the value": with cuts of one node, of some, of all but the sink.
    private static void cutIsTheValue() {
        for (int narrow = 0; narrow < 11; narrow++) {
            FlowProofs x = new FlowProofs(12, 11);
            for (int v = 0; v < 11; v++) x.edge(v, v + 1, v == narrow ? 999_999 : 1_000_000, -1);
            x.ends(0, 11);
            x.run(1);
            for (int v = 0; v < 12; v++) DUE.is("narrow " + narrow + ": inCut(" + v + ")", v <= narrow, x.inCut(v));
            DUE.is("narrow " + narrow + ": value", 999_999, x.value());
            DUE.is("narrow " + narrow + ": check", true, x.check());
        }
    }

    // Promise 10, "for each open arc between nodes of the cut its cost, and the potential where it begins, are
    // not below the potential where it ends": looked at from outside, with arcs back; those that leave the
    // nodes of the cut or begin outside do not count.
    private static void potentialsHold() {
        int[][] edges = {{0, 1, 2, 1}, {1, 2, 2, -4}, {2, 3, 2, 1}, {0, 2, 1, 8}, {3, 4, 9, -10_000}, {5, 0, 9, -10_000}};
        FlowProofs x = new FlowProofs(6, 6);
        for (int[] e : edges) x.edge(e[0], e[1], e[2], e[3]);
        x.ends(0, 3);
        DUE.is("run", FlowProofs.DONE, x.run(9));
        for (int e = 0; e < edges.length; e++) {
            int u = edges[e][0];
            int v = edges[e][1];
            if (!x.inCut(u) || !x.inCut(v)) continue;
            int climb = x.potential(v) - x.potential(u);
            if (x.flow(e) < edges[e][2]) DUE.is("edge " + e + " holds", true, edges[e][3] >= climb);
            if (x.flow(e) > 0) DUE.is("edge " + e + " holds back", true, -edges[e][3] >= -climb);
        }
        DUE.is("check", true, x.check());
    }

    // Promise 10, "False: not solved".
    private static void no(Iterable<State> states) {
        for (State state : states) DUE.is(state.name() + ": check", false, state.make().check());
    }
}
