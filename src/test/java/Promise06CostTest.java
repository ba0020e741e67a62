/** Promise 6: cost. */
public final class Promise06CostTest {
    private static final Due DUE = new Due("Promise 6");

    public static void main(String[] args) {
        DUE.holds("'What that costs'", Promise06CostTest::whatItCosts);
        DUE.holds("'What that costs': below 0", Promise06CostTest::belowZero);
        DUE.holds("'What that costs': beyond an int", Promise06CostTest::beyondAnInt);
        DUE.holds("'What that costs': the most and the least that can be", Promise06CostTest::mostAndLeast);
        DUE.holds("'0: not solved': no ends", () -> zero(State.withoutEnds()));
        DUE.holds("'0: not solved': a circle of negative cost", () -> zero(State.withCircle()));
        DUE.holds("'0: not solved': not yet, or no more after an edge or ends", () -> zero(State.underWay()));
        DUE.finish();
    }

    // Promise 6, "What that costs": an arc back gives its cost back.
    private static void whatItCosts() {
        DUE.is("cost", 4 * 3 + 2 * (5 - 1 + 7), Nets.solved().cost());
        FlowProofs none = Nets.withArcBack();
        none.ends(3, 0);
        none.run(0);
        DUE.is("nothing flows: cost", 0, none.cost());
    }

    // Promise 6, "What that costs".
    private static void belowZero() {
        FlowProofs x = Nets.longestChain(3, -7);
        x.run(1);
        DUE.is("cost", -3 * 7 * 11, x.cost());
    }

    // Promise 6, "What that costs": 214,749 times 10,000 are just above the greatest int.
    private static void beyondAnInt() {
        for (int sign = -1; sign <= 1; sign += 2) {
            FlowProofs x = new FlowProofs(2, 3);
            x.edge(0, 1, 214_749, sign * 10_000);
            x.ends(0, 1);
            x.run(1);
            DUE.is("cost", sign * 2_147_490_000L, x.cost());
            x.edge(0, 1, 1_000_000, sign * 10_000);
            x.run(2);
            DUE.is("cost", sign * 12_147_490_000L, x.cost());
        }
    }

    // Promise 6, "What that costs": along eleven edges each, three edges beside one another and the rest alone.
    private static void mostAndLeast() {
        for (int sign = -1; sign <= 1; sign += 2) {
            FlowProofs chain = Nets.longestChain(1_000_000, sign * 10_000);
            chain.run(1);
            DUE.is("eleven edges: cost", sign * 110_000_000_000L, chain.cost());
            FlowProofs x = new FlowProofs(12, 40);
            for (int e = 0; e < 33; e++) x.edge(e % 11, e % 11 + 1, 1_000_000, sign * 10_000);
            x.ends(0, 11);
            DUE.is("run", FlowProofs.DONE, x.run(3));
            DUE.is("three times eleven edges: cost", sign * 330_000_000_000L, x.cost());
            FlowProofs wide = new FlowProofs(2, 40);
            for (int e = 0; e < 40; e++) wide.edge(0, 1, 1_000_000, sign * 10_000);
            wide.ends(0, 1);
            wide.run(40);
            DUE.is("forty edges: cost", sign * 400_000_000_000L, wide.cost());
        }
    }

    // Promise 6, "0: not solved".
    private static void zero(Iterable<State> states) {
        for (State state : states) DUE.is(state.name() + ": cost", 0, state.make().cost());
    }
}
