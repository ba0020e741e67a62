import java.util.Arrays;

/** The part 'Terms', each sentence that a run of calls can come to. */
public final class TermsTest {
    private static final Due DUE = new Due("Terms");

    public static void main(String[] args) {
        DUE.holds("'NODES 0 .. n - 1': the first and the last, for n 2 to 12", TermsTest::firstAndLastNode);
        DUE.holds("'EDGE e (at most m)': the first and the last, for m 1 to 40", TermsTest::firstAndLastEdge);
        DUE.holds("'a CAPACITY 0 .. 1,000,000': 0", TermsTest::leastCapacity);
        DUE.holds("'a CAPACITY 0 .. 1,000,000': 1,000,000", TermsTest::greatestCapacity);
        DUE.holds("'a COST - 10,000 .. 10,000 a unit': - 10,000", TermsTest::leastCost);
        DUE.holds("'a COST - 10,000 .. 10,000 a unit': 10,000", TermsTest::greatestCost);
        DUE.holds("'ARC 2 e goes along it, with what is left of its capacity'", TermsTest::whatIsLeft);
        DUE.holds("'arc 2 e + 1 back, with its flow'", TermsTest::backWithItsFlow);
        DUE.holds("'and that cost with the other sign'", TermsTest::backAtTheOtherSign);
        DUE.holds("'An arc is OPEN, if it has more than 0'", TermsTest::openByOneUnit);
        DUE.holds("'A WAY .. goes by open arcs, to no node twice'", TermsTest::toNoNodeTwice);
        DUE.holds("'Of two the BETTER one has less cost'", TermsTest::lessCostWins);
        DUE.holds("'of those fewer arcs'", TermsTest::fewerArcsWin);
        DUE.holds("'of those the lesser arc where they differ first'", TermsTest::lesserArcWins);
        DUE.holds("'of those the lesser arc where they differ first': an arc back", TermsTest::lesserArcBackWins);
        DUE.holds("'SOLVING begins with no flow'", TermsTest::beginsWithNoFlow);
        DUE.holds("'a circle of negative cost': of - 1, of two edges", TermsTest::circleOfTwo);
        DUE.holds("'a circle of negative cost': not of 0", TermsTest::circleOfNoCost);
        DUE.holds("'edges with a capacity above 0': not one of 0", TermsTest::circleByCapacityZero);
        DUE.holds("'a circle of negative cost': of all twelve nodes", TermsTest::longestCircle);
        DUE.holds("'a circle of negative cost': by the cheaper of two edges", TermsTest::circleByTheCheaperEdge);
        DUE.holds("'a circle of negative cost': where no way comes", TermsTest::circleAside);
        DUE.holds("'a circle of negative cost': of the least costs that can be", TermsTest::cheapestCircle);
        DUE.holds("'that is all: there is no answer'", TermsTest::noAnswerWithACircle);
        DUE.holds("'as much as its arc with the least has goes along it'", TermsTest::theLeastArcDecides);
        DUE.holds("'flows of edges grow, or shrink by arcs back': to 0", TermsTest::flowsShrinkToNothing);
        DUE.holds("'When there is no way, it is SOLVED'", TermsTest::solvedWithoutAWay);
        DUE.finish();
    }

    private static void flowsAre(String name, FlowProofs x, int... flows) {
        for (int e = 0; e < flows.length; e++) DUE.is(name + ": flow(" + e + ")", flows[e], x.flow(e));
    }

    // Terms, "NODES 0 .. n - 1".
    private static void firstAndLastNode() {
        for (int n = 2; n <= 12; n++) {
            FlowProofs x = new FlowProofs(n, 3);
            DUE.is("edge from the first to the last of " + n, 0, x.edge(0, n - 1, 1, 1));
            DUE.is("edge from the last to the first of " + n, 1, x.edge(n - 1, 0, 1, 1));
            DUE.is("ends, the last and the first of " + n, true, x.ends(n - 1, 0));
            DUE.is("run", FlowProofs.DONE, x.run(1));
            DUE.is("potential of the last of " + n, 0, x.potential(n - 1));
            DUE.is("potential of the first of " + n, Integer.MAX_VALUE, x.potential(0));
            DUE.is("inCut of the last of " + n, true, x.inCut(n - 1));
            DUE.is("edge to node " + n + " of " + n, FlowProofs.BAD, x.edge(0, n, 1, 1));
            DUE.is("ends to node " + n + " of " + n, false, x.ends(0, n));
            DUE.is("potential of node " + n + " of " + n, FlowProofs.BAD, x.potential(n));
        }
    }

    // Terms, "EDGE e (at most m)".
    private static void firstAndLastEdge() {
        for (int m = 1; m <= 40; m++) {
            FlowProofs x = new FlowProofs(2, m);
            for (int e = 0; e < m; e++) DUE.is("edge " + e + " of " + m, e, x.edge(0, 1, e + 1, 1));
            DUE.is("one more than " + m, FlowProofs.BAD, x.edge(0, 1, 1, 1));
            x.ends(0, 1);
            DUE.is("run", FlowProofs.DONE, x.run(m));
            DUE.is("rounds with " + m, m, x.count(2));
            DUE.is("flow of the first of " + m, 1, x.flow(0));
            DUE.is("flow of the last of " + m, m, x.flow(m - 1));
            DUE.is("flow of none of " + m, FlowProofs.BAD, x.flow(m));
        }
    }

    // Terms, "with a CAPACITY 0 .. 1,000,000": 0 is one, and nothing goes along.
    private static void leastCapacity() {
        FlowProofs x = new FlowProofs(2, 2);
        DUE.is("edge of capacity 0", 0, x.edge(0, 1, 0, -10_000));
        x.ends(0, 1);
        DUE.is("no way by it", FlowProofs.DONE, x.run(0));
        DUE.is("edge of capacity 1", 1, x.edge(0, 1, 1, 3));
        DUE.is("next goes by the other", 3, x.next());
        DUE.is("run", FlowProofs.DONE, x.run(1));
        flowsAre("solved", x, 0, 1);
    }

    // Terms, "with a CAPACITY 0 .. 1,000,000": 1,000,000 is one, and all of it goes in one round.
    private static void greatestCapacity() {
        FlowProofs x = new FlowProofs(2, 1);
        DUE.is("edge of capacity 1,000,000", 0, x.edge(0, 1, 1_000_000, 0));
        x.ends(0, 1);
        DUE.is("run", FlowProofs.DONE, x.run(1));
        DUE.is("value", 1_000_000, x.value());
    }

    // Terms, "a COST - 10,000 .. 10,000 a unit": - 10,000 is one.
    private static void leastCost() {
        FlowProofs x = new FlowProofs(2, 1);
        DUE.is("edge of cost - 10,000", 0, x.edge(0, 1, 3, -10_000));
        x.ends(0, 1);
        DUE.is("next", -10_000, x.next());
        DUE.is("run", FlowProofs.DONE, x.run(1));
        DUE.is("cost", -30_000, x.cost());
    }

    // Terms, "a COST - 10,000 .. 10,000 a unit": 10,000 is one.
    private static void greatestCost() {
        FlowProofs x = new FlowProofs(2, 1);
        DUE.is("edge of cost 10,000", 0, x.edge(0, 1, 3, 10_000));
        x.ends(0, 1);
        DUE.is("next", 10_000, x.next());
        DUE.is("run", FlowProofs.DONE, x.run(1));
        DUE.is("cost", 30_000, x.cost());
    }

    // Terms, "ARC 2 e goes along it, with what is left of its capacity, and its cost": edge 0 has 5, of
    // which 3 go in the first round; the second one finds the 2 that are left.
    private static void whatIsLeft() {
        FlowProofs x = new FlowProofs(3, 3);
        x.edge(0, 1, 5, 1);
        x.edge(1, 2, 3, 1);
        x.edge(1, 2, 9, 2);
        x.ends(0, 2);
        DUE.is("run(1)", FlowProofs.MORE, x.run(1));
        flowsAre("first", x, 3, 3, 0);
        DUE.is("run(1) again", FlowProofs.DONE, x.run(1));
        flowsAre("second", x, 5, 3, 2);
    }

    // Terms, "arc 2 e + 1 back, with its flow": edge 2 has a capacity of 9 and a flow of 1, so that no
    // more than 1 can go back.
    private static void backWithItsFlow() {
        FlowProofs x = new FlowProofs(4, 5);
        x.edge(0, 1, 1, 0);
        x.edge(0, 2, 5, 2);
        x.edge(1, 2, 9, 0);
        x.edge(1, 3, 5, 2);
        x.edge(2, 3, 1, 0);
        x.ends(0, 3);
        DUE.is("run(1)", FlowProofs.MORE, x.run(1));
        flowsAre("first", x, 1, 0, 1, 0, 1);
        DUE.is("run(1) again", FlowProofs.DONE, x.run(1));
        flowsAre("second", x, 1, 1, 0, 1, 1);
        DUE.is("value", 2, x.value());
    }

    // Terms, "and that cost with the other sign": 5 along edge 1, - 1 back by edge 2, 7 along edge 3.
    private static void backAtTheOtherSign() {
        FlowProofs x = Nets.withArcBack();
        x.run(1);
        DUE.is("next by an arc back", 5 - 1 + 7, x.next());
        FlowProofs dearer = new FlowProofs(4, 4);
        dearer.edge(0, 1, 2, 1);
        dearer.edge(1, 2, 2, -4);
        dearer.edge(2, 3, 2, 1);
        dearer.edge(0, 2, 1, 8);
        dearer.ends(0, 3);
        DUE.is("dearer: run", FlowProofs.DONE, dearer.run(1));
        DUE.is("4 back by an edge of - 4: potential(1)", 8 + 4, dearer.potential(1));
    }

    // Terms, "An arc is OPEN, if it has more than 0": by one unit it is, by none it is not.
    private static void openByOneUnit() {
        FlowProofs x = new FlowProofs(3, 3);
        x.edge(0, 1, 1_000_000, 0);
        x.edge(1, 2, 999_999, 0);
        x.ends(0, 2);
        DUE.is("run", FlowProofs.DONE, x.run(1));
        DUE.is("one unit is left: inCut(1)", true, x.inCut(1));
        DUE.is("none is left: inCut(2)", false, x.inCut(2));
        x.edge(1, 2, 1, 0);
        DUE.is("next by the last unit", 0, x.next());
        DUE.is("run(2)", FlowProofs.DONE, x.run(2));
        DUE.is("nothing is left: inCut(1)", false, x.inCut(1));
    }

    // Terms, "A WAY from a node to another one goes by open arcs, to no node twice": round the circle of
    // cost 0 there would be more arcs at the same cost, and to edge 3 none but by a closed arc.
    private static void toNoNodeTwice() {
        FlowProofs x = new FlowProofs(4, 5);
        x.edge(0, 1, 2, 3);
        x.edge(1, 0, 2, -3);
        x.edge(1, 3, 2, 4);
        x.edge(2, 3, 2, -9);
        x.edge(0, 2, 0, 0);
        x.ends(0, 3);
        DUE.is("next", 7, x.next());
        DUE.is("run", FlowProofs.DONE, x.run(1));
        flowsAre("solved", x, 2, 0, 2, 0, 0);
    }

    private interface EdgesTest {
        void on(int[][] edges);
    }

    /** In which order the edges come must not decide, where cost or number of arcs do. */
    private static void inEveryOrder(int[][] edges, int fixed, EdgesTest test) {
        if (fixed == edges.length) test.on(edges);
        for (int i = fixed; i < edges.length; i++) {
            int[][] other = edges.clone();
            other[fixed] = edges[i];
            other[i] = edges[fixed];
            inEveryOrder(other, fixed + 1, test);
        }
    }

    /** Each edge: from, to, cost, and what is to flow after one round. */
    private static void firstRoundFrom0To3(int[][] edges) {
        FlowProofs x = new FlowProofs(4, edges.length);
        for (int[] e : edges) x.edge(e[0], e[1], 1, e[2]);
        x.ends(0, 3);
        DUE.is("run(1)", FlowProofs.MORE, x.run(1));
        for (int e = 0; e < edges.length; e++) {
            String name = Arrays.deepToString(edges) + ": flow(" + e + ")";
            DUE.is(name, edges[e][3], x.flow(e));
        }
    }

    // Terms, "Of two the BETTER one has less cost": though it has more arcs, whichever they are.
    private static void lessCostWins() {
        int[][] edges = {{0, 3, 4, 0}, {0, 1, 1, 1}, {1, 2, 1, 1}, {2, 3, 1, 1}, {1, 3, 3, 0}};
        inEveryOrder(edges, 0, TermsTest::firstRoundFrom0To3);
    }

    // Terms, "of those fewer arcs": two, not three, and one, not two, whichever they are.
    private static void fewerArcsWin() {
        int[][] two = {{0, 1, 1, 0}, {1, 2, 1, 0}, {2, 3, 1, 1}, {0, 2, 2, 1}, {0, 3, 4, 0}};
        inEveryOrder(two, 0, TermsTest::firstRoundFrom0To3);
        int[][] one = {{0, 1, 1, 0}, {1, 2, 1, 0}, {2, 3, 1, 0}, {1, 3, 2, 0}, {0, 3, 3, 1}};
        inEveryOrder(one, 0, TermsTest::firstRoundFrom0To3);
    }

    // Terms, "of those the lesser arc where they differ first": not where they differ later.
    private static void lesserArcWins() {
        FlowProofs x = new FlowProofs(5, 8);
        x.edge(2, 4, 1, 0);
        x.edge(3, 4, 1, 0);
        x.edge(1, 3, 3, 0);
        x.edge(1, 2, 3, 0);
        x.edge(0, 1, 3, 0);
        x.edge(3, 4, 1, 0);
        x.ends(0, 4);
        x.run(1);
        flowsAre("the first difference decides", x, 0, 1, 1, 0, 1, 0);
        x.run(1);
        flowsAre("then the twin edge", x, 0, 1, 2, 0, 2, 1);
        DUE.is("run(1)", FlowProofs.DONE, x.run(1));
        flowsAre("then the other node", x, 1, 1, 2, 1, 3, 1);
    }

    // Terms, "of those the lesser arc where they differ first": after the first round two ways of cost 3
    // and three arcs begin with edge 3; they go on by the arc back of edge 1 (arc 3) or by edge 4 (arc 8).
    private static void lesserArcBackWins() {
        FlowProofs x = new FlowProofs(6, 9);
        x.edge(0, 1, 1, 0);
        x.edge(1, 2, 1, 0);
        x.edge(2, 5, 1, 0);
        x.edge(0, 2, 1, 1);
        x.edge(2, 3, 1, 0);
        x.edge(1, 5, 1, 2);
        x.edge(3, 5, 1, 2);
        x.ends(0, 5);
        x.run(1);
        flowsAre("first", x, 1, 1, 1, 0, 0, 0, 0);
        DUE.is("next", 3, x.next());
        DUE.is("run(1)", FlowProofs.DONE, x.run(1));
        flowsAre("by the arc back", x, 1, 0, 1, 1, 0, 1, 0);
    }

    // Terms, "SOLVING begins with no flow": also the second time.
    private static void beginsWithNoFlow() {
        FlowProofs x = Nets.solved();
        x.ends(0, 3);
        DUE.is("run(0)", FlowProofs.MORE, x.run(0));
        flowsAre("begun", x, 0, 0, 0, 0, 0);
        DUE.is("run(1)", FlowProofs.MORE, x.run(1));
        flowsAre("one round", x, 4, 0, 4, 0, 4);
    }

    // Terms, "If edges with a capacity above 0 make a circle of negative cost": - 1 is the greatest one.
    private static void circleOfTwo() {
        FlowProofs x = new FlowProofs(2, 2);
        x.edge(0, 1, 1, -10_000);
        x.edge(1, 0, 1, 9_999);
        x.ends(0, 1);
        DUE.is("run", FlowProofs.CIRCLE, x.run(1));
    }

    // Terms, "a circle of negative cost": one of cost 0 is none, with arcs back, too.
    private static void circleOfNoCost() {
        FlowProofs x = new FlowProofs(3, 4);
        x.edge(0, 1, 1, -10_000);
        x.edge(1, 0, 1, 10_000);
        x.edge(1, 2, 1, 5);
        x.ends(0, 2);
        DUE.is("next", -9_995, x.next());
        DUE.is("run", FlowProofs.DONE, x.run(9));
        DUE.is("value", 1, x.value());
        DUE.is("check", true, x.check());
    }

    // Terms, "edges with a capacity above 0": of 0 it makes no circle, of 1 it does.
    private static void circleByCapacityZero() {
        FlowProofs x = new FlowProofs(2, 3);
        x.edge(0, 1, 1, -1);
        x.edge(1, 0, 0, 0);
        x.ends(0, 1);
        DUE.is("capacity 0: run", FlowProofs.DONE, x.run(1));
        x.edge(1, 0, 1, 0);
        DUE.is("capacity 1: run", FlowProofs.CIRCLE, x.run(1));
    }

    // Terms, "a circle of negative cost": of all twelve nodes, against the order in which the edges stand.
    private static void longestCircle() {
        FlowProofs x = new FlowProofs(12, 40);
        for (int v = 0; v < 12; v++) x.edge((v + 1) % 12, v, 1, v == 5 ? -11 : 1);
        x.ends(0, 1);
        DUE.is("cost 0: run", FlowProofs.DONE, x.run(1));
        x.edge(6, 5, 1, -12);
        DUE.is("cost - 1: run", FlowProofs.CIRCLE, x.run(1));
    }

    // Terms, "a circle of negative cost": of two edges between the same nodes either can make it.
    private static void circleByTheCheaperEdge() {
        for (int cheaper = 0; cheaper < 2; cheaper++) {
            FlowProofs x = new FlowProofs(3, 3);
            x.edge(0, 1, 1, 5);
            x.edge(1, 0, 1, cheaper == 0 ? -6 : -4);
            x.edge(1, 0, 1, cheaper == 1 ? -6 : -4);
            x.ends(0, 2);
            DUE.is("edge " + (1 + cheaper) + " is the cheaper: run", FlowProofs.CIRCLE, x.run(1));
        }
    }

    // Terms, "a circle of negative cost, that is all": also where no way from the source comes, and
    // where none goes on to the sink.
    private static void circleAside() {
        FlowProofs x = Nets.withCircle();
        DUE.is("no way comes to it: run", FlowProofs.CIRCLE, x.run(1));
        x.ends(2, 0);
        DUE.is("no way goes on from it: run", FlowProofs.CIRCLE, x.run(1));
        x.ends(4, 0);
        DUE.is("no way at all: run", FlowProofs.CIRCLE, x.run(0));
        FlowProofs later = new FlowProofs(4, 4);
        later.edge(0, 1, 1, 1);
        later.ends(0, 1);
        DUE.is("none yet: run", FlowProofs.DONE, later.run(1));
        later.edge(2, 3, 1, -4);
        DUE.is("half of it: run", FlowProofs.DONE, later.run(1));
        later.edge(3, 2, 1, 3);
        DUE.is("it came when it was solved: run", FlowProofs.CIRCLE, later.run(1));
    }

    // Terms, "a circle of negative cost": of the least costs that forty edges can have.
    private static void cheapestCircle() {
        FlowProofs x = new FlowProofs(12, 40);
        for (int e = 0; e < 40; e++) x.edge(e % 12, (e + 1) % 12, 1_000_000, -10_000);
        x.ends(0, 11);
        DUE.is("run", FlowProofs.CIRCLE, x.run(10_000));
        DUE.is("next", FlowProofs.BAD, x.next());
    }

    // Terms, "that is all: there is no answer".
    private static void noAnswerWithACircle() {
        FlowProofs x = Nets.withCircle();
        DUE.is("run", FlowProofs.CIRCLE, x.run(9));
        flowsAre("circle", x, 0, 0, 0);
        DUE.is("value", FlowProofs.BAD, x.value());
        DUE.is("count(2)", 0, x.count(2));
        DUE.is("count(3)", 0, x.count(3));
    }

    // Terms, "as much as its arc with the least has goes along it": be it the first, one between, or the last.
    private static void theLeastArcDecides() {
        for (int least = 0; least < 3; least++) {
            FlowProofs x = new FlowProofs(4, 3);
            for (int e = 0; e < 3; e++) x.edge(e, e + 1, e == least ? 7 : 8 + e, 1);
            x.ends(0, 3);
            DUE.is("run(1)", FlowProofs.DONE, x.run(1));
            flowsAre("edge " + least + " has the least", x, 7, 7, 7);
            DUE.is("count(2)", 1, x.count(2));
        }
    }

    // Terms, "flows of edges grow, or shrink by arcs back": edge 2 has a flow of 4, then of 2; the net
    // with 4 instead of 2 to go round it takes all of it back.
    private static void flowsShrinkToNothing() {
        FlowProofs x = Nets.withArcBack();
        x.run(1);
        DUE.is("grown: flow(2)", 4, x.flow(2));
        x.run(1);
        DUE.is("shrunk: flow(2)", 2, x.flow(2));
        FlowProofs all = new FlowProofs(4, 5);
        all.edge(0, 1, 4, 1);
        all.edge(0, 2, 4, 5);
        all.edge(1, 2, 4, 1);
        all.edge(1, 3, 4, 7);
        all.edge(2, 3, 4, 1);
        all.ends(0, 3);
        all.run(1);
        DUE.is("grown: flow(2)", 4, all.flow(2));
        DUE.is("run(1)", FlowProofs.DONE, all.run(1));
        flowsAre("all of it taken back", all, 4, 4, 0, 4, 4);
        DUE.is("value", 8, all.value());
        DUE.is("cost", 4 * 8 + 4 * 6, all.cost());
    }

    // Terms, "When there is no way, it is SOLVED": no edges, none to the sink, none from the source, all
    // of them the other way round.
    private static void solvedWithoutAWay() {
        int[][] edges = {{}, {0, 1}, {1, 2}, {2, 0}};
        for (int[] edge : edges) {
            FlowProofs x = new FlowProofs(3, 2);
            if (edge.length == 2) x.edge(edge[0], edge[1], 5, 1);
            x.ends(0, 2);
            DUE.is("run(0)", FlowProofs.DONE, x.run(0));
            DUE.is("value", 0, x.value());
            DUE.is("count(2)", 0, x.count(2));
            DUE.is("check", true, x.check());
        }
    }
}
