public final class Promise01NewObjectTest {
    private static final Due DUE = new Due();

    public static void main(String[] args) {
        nodesAreBroughtWithin();
        edgesAreBroughtWithin();
        nothingIsThere();
        DUE.finish();
    }

    private static void nodesAreBroughtWithin() {
        int[][] askedAndDue = {
            {Integer.MIN_VALUE, 2}, {-1, 2}, {0, 2}, {1, 2}, {2, 2}, {3, 3}, {7, 7}, {11, 11}, {12, 12}, {13, 12},
            {Integer.MAX_VALUE, 12}};
        for (int[] pair : askedAndDue) {
            FlowProofs x = new FlowProofs(pair[0], 3);
            DUE.is("count(0) of " + pair[0] + " nodes", pair[1], x.count(0));
            DUE.is("edge to the last node of " + pair[0], 0, x.edge(0, pair[1] - 1, 1, 1));
            DUE.is("edge beyond the last node of " + pair[0], FlowProofs.BAD, x.edge(0, pair[1], 1, 1));
        }
    }

    private static void edgesAreBroughtWithin() {
        int[][] askedAndDue = {
            {Integer.MIN_VALUE, 1}, {-1, 1}, {0, 1}, {1, 1}, {2, 2}, {17, 17}, {39, 39}, {40, 40}, {41, 40},
            {Integer.MAX_VALUE, 40}};
        for (int[] pair : askedAndDue) {
            FlowProofs x = new FlowProofs(3, pair[0]);
            for (int e = 0; e < pair[1]; e++) DUE.is("edge " + e + " of " + pair[0], e, x.edge(0, 1, 1, 1));
            DUE.is("edge beyond the last of " + pair[0], FlowProofs.BAD, x.edge(0, 1, 1, 1));
            DUE.is("count(1) of " + pair[0], pair[1], x.count(1));
        }
    }

    private static void nothingIsThere() {
        FlowProofs x = new FlowProofs(3, 3);
        DUE.is("count(1)", 0, x.count(1));
        DUE.is("count(2)", 0, x.count(2));
        DUE.is("count(3)", 0, x.count(3));
        DUE.is("run(1)", FlowProofs.NO_ENDS, x.run(1));
        DUE.is("flow(0)", FlowProofs.BAD, x.flow(0));
        DUE.is("value()", FlowProofs.BAD, x.value());
        DUE.is("cost()", 0, x.cost());
        DUE.is("potential(0)", FlowProofs.BAD, x.potential(0));
        DUE.is("inCut(0)", false, x.inCut(0));
        DUE.is("check()", false, x.check());
        DUE.is("next()", FlowProofs.BAD, x.next());
    }
}
