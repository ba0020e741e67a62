/** Promise 8: potential. */
public final class Promise08PotentialTest {
    private static final Due DUE = new Due("Promise 8");
    private static final int MIN = Integer.MIN_VALUE, MAX = Integer.MAX_VALUE;

    public static void main(String[] args) {
        DUE.holds("'The cost of the cheapest way from the source to a node'", Promise08PotentialTest::cheapestWay);
        DUE.holds("'by open arcs': arcs back, too", Promise08PotentialTest::byArcsBack);
        DUE.holds("'by open arcs': no full ones, none of capacity 0", Promise08PotentialTest::notByClosedArcs);
        DUE.holds("'(0 for itself)'", Promise08PotentialTest::zeroForItself);
        DUE.holds("'The cost of the cheapest way': the least and the greatest", Promise08PotentialTest::leastAndGreatest);
        DUE.holds("'the greatest int: there is none'", Promise08PotentialTest::thereIsNone);
        DUE.holds("'BAD (which may be one, too)'", Promise08PotentialTest::minusOneIsOne);
        DUE.holds("'BAD: not solved': no ends", () -> bad(State.withoutEnds()));
        DUE.holds("'BAD: not solved': a circle of negative cost", () -> bad(State.withCircle()));
        DUE.holds("'BAD: not solved': not yet, or no more after an edge or ends", () -> bad(State.underWay()));
        DUE.holds("'BAD: .. none such': below 0", Promise08PotentialTest::tooSmall);
        DUE.holds("'BAD: .. none such': n and beyond", Promise08PotentialTest::tooLarge);
        DUE.finish();
    }

    private static void potentialsAre(String name, FlowProofs x, int... want) {
        for (int v = 0; v < want.length; v++) DUE.is(name + ": potential(" + v + ")", want[v], x.potential(v));
    }

    private static FlowProofs halfOpen() {
        FlowProofs x = new FlowProofs(6, 9);
        x.edge(0, 1, 9, 1);
        x.edge(1, 2, 9, -2);
        x.edge(0, 2, 9, 0);
        x.edge(2, 3, 1, 4);
        x.edge(3, 4, 9, 4);
        x.edge(5, 0, 9, -7);
        x.ends(0, 4);
        x.run(5);
        return x;
    }

    // Promise 8, "The cost of the cheapest way from the source to a node": though it has more arcs.
    private static void cheapestWay() {
        potentialsAre("solved", halfOpen(), 0, 1, -1, MAX, MAX, MAX);
    }

    // Promise 8, "by open arcs": node 1 can be come to only by the arc back of edge 1, at 8 - 1.
    private static void byArcsBack() {
        FlowProofs x = new FlowProofs(4, 4);
        x.edge(0, 1, 2, 1);
        x.edge(1, 2, 2, 1);
        x.edge(2, 3, 2, 1);
        x.edge(0, 2, 1, 8);
        x.ends(0, 3);
        x.run(5);
        potentialsAre("back", x, 0, 7, 8, MAX);
    }

    // Promise 8, "by open arcs".
    private static void notByClosedArcs() {
        potentialsAre("full", Nets.solved(), 0, MAX, MAX, MAX);
        FlowProofs x = new FlowProofs(3, 3);
        x.edge(0, 1, 0, -5);
        x.edge(0, 1, 1, 5);
        x.ends(0, 2);
        x.run(1);
        potentialsAre("capacity 0", x, 0, 5, MAX);
    }

    // Promise 8, "(0 for itself)": whichever node it is, and with a circle of cost 0 through it.
    private static void zeroForItself() {
        for (int source = 0; source < 12; source++) {
            FlowProofs x = new FlowProofs(12, 40);
            for (int v = 0; v < 12; v++) x.edge(v, (v + 1) % 12, 1, v == 0 ? -11 : 1);
            x.ends(source, (source + 5) % 12);
            DUE.is("run", FlowProofs.DONE, x.run(10_000));
            DUE.is("potential of the source " + source, 0, x.potential(source));
        }
    }

    // Promise 8, "The cost of the cheapest way": by ten edges of one cost, the eleventh being full.
    private static void leastAndGreatest() {
        for (int sign = -1; sign <= 1; sign += 2) {
            FlowProofs x = new FlowProofs(12, 12);
            for (int v = 0; v < 10; v++) x.edge(v, v + 1, 2, sign * 10_000);
            x.edge(10, 11, 1, sign * 10_000);
            x.ends(0, 11);
            DUE.is("run", FlowProofs.DONE, x.run(1));
            for (int v = 0; v < 11; v++) DUE.is("potential(" + v + ")", sign * 10_000 * v, x.potential(v));
            DUE.is("potential(11)", MAX, x.potential(11));
        }
    }

    // Promise 8, "the greatest int: there is none": for the sink it always is so, when it is solved.
    private static void thereIsNone() {
        DUE.is("the greatest int", 2_147_483_647, halfOpen().potential(4));
        DUE.is("a node before the source", 2_147_483_647, halfOpen().potential(5));
        FlowProofs empty = new FlowProofs(12, 1);
        empty.ends(3, 7);
        empty.run(0);
        for (int v = 0; v < 12; v++) DUE.is("no edges: potential(" + v + ")", v == 3 ? 0 : MAX, empty.potential(v));
    }

    // Promise 8, "BAD (which may be one, too)": a cost of - 1 is answered, and the node is in the cut.
    private static void minusOneIsOne() {
        FlowProofs x = halfOpen();
        DUE.is("potential(2)", -1, x.potential(2));
        DUE.is("inCut(2)", true, x.inCut(2));
    }

    // Promise 8, "BAD: not solved".
    private static void bad(Iterable<State> states) {
        for (State state : states) {
            FlowProofs x = state.make();
            for (int v = 0; v < x.count(0); v++) {
                DUE.is(state.name() + ": potential(" + v + ")", FlowProofs.BAD, x.potential(v));
            }
        }
    }

    private static void refused(int node) {
        Refused.bad(DUE, "potential(" + node + ")", x -> x.potential(node));
    }

    // Promise 8, "BAD: .. none such".
    private static void tooSmall() {
        for (int node : new int[] {-1, -2, MIN}) refused(node);
    }

    // Promise 8, "BAD: .. none such".
    private static void tooLarge() {
        Refused.bad(DUE, "potential(n)", x -> x.potential(x.count(0)));
        for (int node : new int[] {5, 12, 13, MAX}) refused(node);
    }
}
