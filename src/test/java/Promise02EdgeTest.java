import java.util.function.Function;

/** Promise 2: edge. */
public final class Promise02EdgeTest {
    private static final Due DUE = new Due("Promise 2");
    private static final int MIN = Integer.MIN_VALUE, MAX = Integer.MAX_VALUE;

    public static void main(String[] args) {
        DUE.holds("'One more edge: which one'", Promise02EdgeTest::whichOne);
        DUE.holds("'One more edge': of the least and greatest capacity and cost", Promise02EdgeTest::leastAndGreatest);
        DUE.holds("'What was solved is gone': all of it, when it was solved", Promise02EdgeTest::solvedIsGone);
        DUE.holds("'What was solved is gone': rounds that were done, too", Promise02EdgeTest::roundsAreGone);
        DUE.holds("'What was solved is gone': by an edge of capacity 0, too", Promise02EdgeTest::goneByAClosedEdge);
        DUE.holds("'What was solved is gone': edges and ends are not", Promise02EdgeTest::edgesAndEndsStay);
        DUE.holds("'BAD: none such nodes': u", Promise02EdgeTest::noSuchBegin);
        DUE.holds("'BAD: none such nodes': v", Promise02EdgeTest::noSuchEnd);
        DUE.holds("'BAD: .. the same'", Promise02EdgeTest::theSame);
        DUE.holds("'BAD: .. no such capacity': too small", Promise02EdgeTest::capacityTooSmall);
        DUE.holds("'BAD: .. no such capacity': too large", Promise02EdgeTest::capacityTooLarge);
        DUE.holds("'BAD: .. no such .. cost': too small", Promise02EdgeTest::costTooSmall);
        DUE.holds("'BAD: .. no such .. cost': too large", Promise02EdgeTest::costTooLarge);
        DUE.holds("'BAD: .. there are m': not one before", Promise02EdgeTest::thereAreM);
        DUE.holds("'BAD: .. there are m': nothing changes", Promise02EdgeTest::refusedWhenFull);
        DUE.holds("'BAD: .. all capacities together would be above 1,073,741,824': forty times 1,000,000 are not",
            Promise02EdgeTest::greatestCapacitiesFit);
        DUE.holds("'BAD': a refused edge takes no number", Promise02EdgeTest::refusedTakesNoNumber);
        DUE.finish();
    }

    private static void refused(Function<FlowProofs, int[]> arguments) {
        int[] shown = arguments.apply(new FlowProofs(4, 6));
        String call = "edge(" + shown[0] + ", " + shown[1] + ", " + shown[2] + ", " + shown[3] + ")";
        Refused.bad(DUE, call, x -> {
            int[] a = arguments.apply(x);
            return x.edge(a[0], a[1], a[2], a[3]);
        });
    }

    private static void refused(int u, int v, int capacity, int cost) {
        refused(x -> new int[] {u, v, capacity, cost});
    }

    // Promise 2, "One more edge: which one": also the same one again, and the other way round.
    private static void whichOne() {
        FlowProofs x = new FlowProofs(3, 5);
        int[][] edges = {{0, 1}, {1, 2}, {1, 2}, {2, 1}, {0, 2}};
        for (int e = 0; e < 5; e++) {
            DUE.is("count(1) before", e, x.count(1));
            DUE.is("edge " + e, e, x.edge(edges[e][0], edges[e][1], 3, 1));
            DUE.is("count(1) after", e + 1, x.count(1));
            DUE.is("flow(" + e + ")", 0, x.flow(e));
        }
    }

    // Promise 2, "One more edge": 0 and 1,000,000, - 10,000 and 10,000 are no reason for BAD.
    private static void leastAndGreatest() {
        FlowProofs x = new FlowProofs(3, 4);
        DUE.is("least, least", 0, x.edge(0, 1, 0, -10_000));
        DUE.is("least, greatest", 1, x.edge(0, 1, 0, 10_000));
        DUE.is("greatest, least", 2, x.edge(0, 1, 1_000_000, -10_000));
        DUE.is("greatest, greatest", 3, x.edge(0, 1, 1_000_000, 10_000));
    }

    // Promise 2, "What was solved is gone": in every state in which it was, and in which there is room for an edge.
    private static void solvedIsGone() {
        for (State state : State.solved()) {
            if (state.name().equals("solved, m edges")) continue;
            FlowProofs x = state.make();
            DUE.is(state.name() + ": edge", x.count(1), x.edge(1, 0, 1, 10_000));
            Gone.all(DUE, state.name(), x);
        }
    }

    // Promise 2, "What was solved is gone": as far as it was, when there was more to do.
    private static void roundsAreGone() {
        FlowProofs x = Nets.withArcBack();
        DUE.is("run(1)", FlowProofs.MORE, x.run(1));
        DUE.is("edge", 5, x.edge(0, 3, 1, 2));
        Gone.all(DUE, "one round, then an edge", x);
        DUE.is("next by the new edge", 2, x.next());
        DUE.is("run(1) begins anew", FlowProofs.MORE, x.run(1));
        DUE.is("count(2)", 1, x.count(2));
        DUE.is("count(3)", 1, x.count(3));
    }

    // Promise 2, "What was solved is gone": though no way goes by an edge of capacity 0.
    private static void goneByAClosedEdge() {
        FlowProofs x = Nets.solved();
        DUE.is("edge of capacity 0", 5, x.edge(0, 3, 0, 0));
        Gone.all(DUE, "an edge of capacity 0", x);
        DUE.is("run(0)", FlowProofs.MORE, x.run(0));
    }

    // Promise 2, "What was solved is gone": the edges are still there, and so are source and sink.
    private static void edgesAndEndsStay() {
        FlowProofs x = Nets.solved();
        x.edge(2, 1, 1, 10_000);
        DUE.is("count(1)", 6, x.count(1));
        DUE.is("run", FlowProofs.DONE, x.run(2));
        DUE.is("value", 6, x.value());
        DUE.is("cost", 34, x.cost());
        DUE.is("check", true, x.check());
    }

    // Promise 2, "BAD: none such nodes": where it begins.
    private static void noSuchBegin() {
        for (int u : new int[] {-1, 12, MIN, MAX}) refused(u, 1, 1, 1);
        refused(x -> new int[] {x.count(0), 1, 1, 1});
    }

    // Promise 2, "BAD: none such nodes": where it ends.
    private static void noSuchEnd() {
        for (int v : new int[] {-1, 12, MIN, MAX}) refused(1, v, 1, 1);
        refused(x -> new int[] {0, x.count(0), 1, 1});
    }

    // Promise 2, "BAD: .. the same": nodes that there are, and those that there are not.
    private static void theSame() {
        refused(0, 0, 1, 1);
        refused(1, 1, 0, 0);
        refused(x -> new int[] {x.count(0) - 1, x.count(0) - 1, 1, 1});
        refused(-1, -1, 1, 1);
    }

    // Promise 2, "BAD: .. no such capacity": below 0.
    private static void capacityTooSmall() {
        for (int capacity : new int[] {-1, -1_000_000, MIN}) refused(0, 1, capacity, 1);
    }

    // Promise 2, "BAD: .. no such capacity": above 1,000,000.
    private static void capacityTooLarge() {
        for (int capacity : new int[] {1_000_001, 1_073_741_824, MAX}) refused(0, 1, capacity, 1);
    }

    // Promise 2, "BAD: .. no such .. cost": below - 10,000.
    private static void costTooSmall() {
        for (int cost : new int[] {-10_001, -1_000_000, MIN}) refused(0, 1, 1, cost);
    }

    // Promise 2, "BAD: .. no such .. cost": above 10,000.
    private static void costTooLarge() {
        for (int cost : new int[] {10_001, 1_000_000, MAX}) refused(0, 1, 1, cost);
    }

    // Promise 2, "BAD: .. there are m": the last of them is taken, one more never.
    private static void thereAreM() {
        for (int m : new int[] {1, 2, 39, 40}) {
            FlowProofs x = new FlowProofs(2, m);
            for (int e = 0; e < m; e++) DUE.is("edge " + e + " of " + m, e, x.edge(0, 1, 0, 0));
            for (int again = 0; again < 3; again++) {
                DUE.is("edge beyond " + m, FlowProofs.BAD, x.edge(0, 1, 0, 0));
                DUE.is("count(1) beyond " + m, m, x.count(1));
            }
        }
    }

    // Promise 2, "BAD: .. there are m": what was solved stays, also as far as it was.
    private static void refusedWhenFull() {
        for (int rounds : new int[] {0, 1, 2}) {
            FlowProofs x = Nets.full();
            FlowProofs same = Nets.full();
            x.run(rounds);
            same.run(rounds);
            DUE.is("edge after " + rounds + " rounds", FlowProofs.BAD, x.edge(0, 3, 1, 1));
            DUE.same("after " + rounds + " rounds", Answers.nowAndLater(same), Answers.nowAndLater(x));
        }
        FlowProofs circle = new FlowProofs(2, 2);
        circle.edge(0, 1, 1, -1);
        circle.edge(1, 0, 1, 0);
        circle.ends(0, 1);
        DUE.is("with a circle: run", FlowProofs.CIRCLE, circle.run(1));
        DUE.is("with a circle: edge", FlowProofs.BAD, circle.edge(1, 0, 1, 1));
        DUE.is("with a circle: run again", FlowProofs.CIRCLE, circle.run(1));
    }

    // Promise 2, "BAD: .. all capacities together would be above 1,073,741,824": no run of calls can come
    // to that, as forty edges have at most 40,000,000; those have to be taken.
    private static void greatestCapacitiesFit() {
        FlowProofs x = new FlowProofs(2, 40);
        for (int e = 0; e < 40; e++) DUE.is("great edge " + e, e, x.edge(0, 1, 1_000_000, -10_000));
        x.ends(0, 1);
        DUE.is("great run", FlowProofs.DONE, x.run(10_000));
        DUE.is("great value", 40_000_000, x.value());
        DUE.is("great check", true, x.check());
    }

    // Promise 2, "BAD": the next edge that is taken has the number that comes next.
    private static void refusedTakesNoNumber() {
        FlowProofs x = new FlowProofs(3, 2);
        DUE.is("first", 0, x.edge(0, 1, 1, 1));
        for (int i = 0; i < 5; i++) DUE.is("refused", FlowProofs.BAD, x.edge(0, 1, 1, 10_001));
        DUE.is("flow(1)", FlowProofs.BAD, x.flow(1));
        DUE.is("second", 1, x.edge(1, 2, 1, 1));
    }
}
