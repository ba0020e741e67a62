public final class Promise02EdgeTest {
    private static final Due DUE = new Due();

    public static void main(String[] args) {
        edgesAreNumbered();
        wrongEdgesAreRefused();
        whatWasSolvedIsGone();
        refusedEdgesChangeNothing();
        greatestCapacitiesFit();
        DUE.finish();
    }

    private static void edgesAreNumbered() {
        FlowProofs x = new FlowProofs(3, 5);
        DUE.is("first", 0, x.edge(0, 1, 0, 0));
        DUE.is("greatest capacity", 1, x.edge(1, 2, 1_000_000, 10_000));
        DUE.is("least cost", 2, x.edge(2, 0, 0, -10_000));
        DUE.is("the same again", 3, x.edge(2, 0, 0, -10_000));
        DUE.is("the other way round", 4, x.edge(0, 2, 5, 1));
        DUE.is("there are m", FlowProofs.BAD, x.edge(0, 1, 1, 1));
        DUE.is("count(1)", 5, x.count(1));
    }

    private static void wrongEdgesAreRefused() {
        FlowProofs x = new FlowProofs(3, 5);
        int min = Integer.MIN_VALUE;
        int max = Integer.MAX_VALUE;
        int[][] wrong = {
            {-1, 1, 1, 1}, {3, 1, 1, 1}, {min, 1, 1, 1}, {max, 1, 1, 1},
            {1, -1, 1, 1}, {1, 3, 1, 1}, {1, min, 1, 1}, {1, max, 1, 1},
            {0, 0, 1, 1}, {2, 2, 1, 1}, {-1, -1, 1, 1},
            {0, 1, -1, 1}, {0, 1, 1_000_001, 1}, {0, 1, min, 1}, {0, 1, max, 1},
            {0, 1, 1, -10_001}, {0, 1, 1, 10_001}, {0, 1, 1, min}, {0, 1, 1, max}};
        for (int[] w : wrong) {
            String call = "edge(" + w[0] + ", " + w[1] + ", " + w[2] + ", " + w[3] + ")";
            DUE.is(call, FlowProofs.BAD, x.edge(w[0], w[1], w[2], w[3]));
        }
        DUE.is("count(1)", 0, x.count(1));
        DUE.is("edge after all that", 0, x.edge(0, 1, 1, 1));
    }

    private static void whatWasSolvedIsGone() {
        FlowProofs x = new FlowProofs(4, 6);
        x.edge(0, 1, 4, 1);
        x.edge(1, 3, 4, 1);
        x.ends(0, 3);
        DUE.is("run", FlowProofs.DONE, x.run(5));
        DUE.is("edge of no use", 2, x.edge(1, 2, 0, 0));
        DUE.is("value", FlowProofs.BAD, x.value());
        DUE.is("cost", 0, x.cost());
        DUE.is("flow(0)", 0, x.flow(0));
        DUE.is("potential(0)", FlowProofs.BAD, x.potential(0));
        DUE.is("inCut(0)", false, x.inCut(0));
        DUE.is("check", false, x.check());
        DUE.is("count(2)", 0, x.count(2));
        DUE.is("count(3)", 0, x.count(3));
        DUE.is("next", 2, x.next());
        DUE.is("ends stay: run", FlowProofs.DONE, x.run(5));
        DUE.is("value again", 4, x.value());

        FlowProofs half = Nets.withArcBack();
        FlowProofs wide = new FlowProofs(4, 6);
        DUE.is("half: run(1)", FlowProofs.MORE, half.run(1));
        DUE.is("half: there are m", FlowProofs.BAD, half.edge(0, 3, 1, 1));
        DUE.is("half: flow stays", 4, half.count(3));
        wide.edge(0, 1, 1, 1);
        wide.edge(0, 1, 1, 2);
        wide.ends(0, 1);
        DUE.is("wide: run(1)", FlowProofs.MORE, wide.run(1));
        DUE.is("wide: edge", 2, wide.edge(0, 1, 1, 0));
        DUE.is("wide: count(3)", 0, wide.count(3));
        DUE.is("wide: next", 0, wide.next());
    }

    private static void refusedEdgesChangeNothing() {
        FlowProofs x = Nets.solved();
        DUE.is("refused", FlowProofs.BAD, x.edge(0, 3, 1, 10_001));
        DUE.is("refused", FlowProofs.BAD, x.edge(0, 0, 1, 1));
        DUE.is("refused", FlowProofs.BAD, x.edge(0, 1, 1, 1));
        DUE.is("value stays", 6, x.value());
        DUE.is("check stays", true, x.check());
        DUE.is("run stays", FlowProofs.DONE, x.run(0));
    }

    // Forty edges can't come near 1,073,741,824 in all: the greatest of them have to be taken.
    private static void greatestCapacitiesFit() {
        FlowProofs x = new FlowProofs(2, 40);
        for (int e = 0; e < 40; e++) DUE.is("great edge " + e, e, x.edge(0, 1, 1_000_000, -10_000));
        x.ends(0, 1);
        DUE.is("great run", FlowProofs.DONE, x.run(10_000));
        DUE.is("great value", 40_000_000, x.value());
        DUE.is("great cost", -400_000_000_000L, x.cost());
        DUE.is("great check", true, x.check());
    }
}
