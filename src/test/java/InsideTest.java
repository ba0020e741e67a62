import java.lang.reflect.Field;

/**
 * What no run of calls can come to: the limit of all capacities together (Promise 2), and a checker that
 * finds a fault (Promise 10). The fault is put into the object from inside, so this test knows its fields.
 */
public final class InsideTest {
    private static final Due DUE = new Due("From inside");

    public static void main(String[] args) {
        DUE.holds("Promise 2, 'all capacities together would be above 1,073,741,824': just as much", InsideTest::justAsMuch);
        DUE.holds("Promise 2, 'all capacities together would be above 1,073,741,824': one more", InsideTest::oneMore);
        DUE.holds("Promise 2, 'all capacities together ..': above the greatest int", InsideTest::aboveAnInt);
        DUE.holds("Promise 10, 'flows are within capacities': not below 0", InsideTest::flowBelowZero);
        DUE.holds("Promise 10, 'flows are within capacities': not above", InsideTest::flowAboveCapacity);
        DUE.holds("Promise 10, 'what comes to a node but the ends goes on': too little", InsideTest::flowStaysBehind);
        DUE.holds("Promise 10, 'what comes to a node but the ends goes on': too much", InsideTest::flowComesFromNowhere);
        DUE.holds("Promise 10, 'all edges that leave the cut are full'", InsideTest::leavingEdgeNotFull);
        DUE.holds("Promise 10, 'those that enter it empty'", InsideTest::enteringEdgeNotEmpty);
        DUE.holds("Promise 10, 'so that the cut's capacity is the value'", InsideTest::anotherValue);
        DUE.holds("Promise 10, 'for each open arc between nodes of the cut': along", InsideTest::potentialTooHigh);
        DUE.holds("Promise 10, 'for each open arc between nodes of the cut': back", InsideTest::potentialTooLow);
        DUE.finish();
    }

    private static Object inside(Object owner, String name) {
        try {
            Field field = owner.getClass().getDeclaredField(name);
            field.setAccessible(true);
            return field.get(owner);
        } catch (ReflectiveOperationException e) {
            throw new IllegalStateException(e);
        }
    }

    private static int[] flows(FlowProofs x) {
        return (int[]) inside(inside(x, "net"), "flow");
    }

    private static int[] capacities(FlowProofs x) {
        return (int[]) inside(inside(x, "net"), "capacity");
    }

    private static int[] potentials(FlowProofs x) {
        return (int[]) inside(inside(x, "fromSource"), "least");
    }

    /** The cut is {3, 4}, the value 3; edges 0 and 1 are a circle outside the cut, edge 5 enters it. */
    private static FlowProofs solved() {
        FlowProofs x = new FlowProofs(6, 8);
        x.edge(0, 1, 2, 1);
        x.edge(1, 0, 2, 1);
        x.edge(3, 4, 4, 1);
        x.edge(4, 2, 3, 1);
        x.edge(3, 5, 0, 0);
        x.edge(2, 3, 9, 1);
        x.edge(2, 0, 1, 1);
        x.edge(5, 2, 1, 1);
        x.ends(3, 2);
        DUE.is("run", FlowProofs.DONE, x.run(9));
        DUE.is("without a fault: value", 3, x.value());
        DUE.is("without a fault: check", true, x.check());
        return x;
    }

    private static void finds(FlowProofs x) {
        DUE.is("with a fault: check", false, x.check());
    }

    // Promise 2, "all capacities together would be above 1,073,741,824": together they are just that.
    private static void justAsMuch() {
        FlowProofs x = solvedWithRoom(1_073_741_824 - 9);
        DUE.is("edge", 1, x.edge(0, 1, 9, 0));
        DUE.is("edge of capacity 0", 2, x.edge(0, 1, 0, 0));
    }

    // Promise 2, "all capacities together would be above 1,073,741,824": and what was solved stays.
    private static void oneMore() {
        FlowProofs x = solvedWithRoom(1_073_741_824 - 9);
        DUE.is("edge", FlowProofs.BAD, x.edge(0, 1, 10, 0));
        DUE.is("count(1)", 1, x.count(1));
        DUE.is("value", 5, x.value());
    }

    // Promise 2, "all capacities together would be above 1,073,741,824": by so much that an int would wrap around.
    private static void aboveAnInt() {
        FlowProofs x = solvedWithRoom(Integer.MAX_VALUE);
        DUE.is("edge", FlowProofs.BAD, x.edge(0, 1, 1_000_000, 0));
    }

    private static FlowProofs solvedWithRoom(int capacityOfAll) {
        FlowProofs x = new FlowProofs(2, 3);
        x.edge(0, 1, 5, 0);
        x.ends(0, 1);
        DUE.is("run", FlowProofs.DONE, x.run(1));
        capacities(x)[0] = capacityOfAll;
        return x;
    }

    // Promise 10, "flows are within capacities": round a circle outside the cut, so that nothing else is wrong.
    private static void flowBelowZero() {
        FlowProofs x = solved();
        flows(x)[0] = -1;
        flows(x)[1] = -1;
        finds(x);
    }

    // Promise 10, "flows are within capacities": as full as can be is no fault, one more is.
    private static void flowAboveCapacity() {
        FlowProofs x = solved();
        flows(x)[0] = 2;
        flows(x)[1] = 2;
        DUE.is("full: check", true, x.check());
        capacities(x)[0] = 1;
        finds(x);
    }

    // Promise 10, "what comes to a node but the ends goes on": to node 0 from the sink, where it stays.
    private static void flowStaysBehind() {
        FlowProofs x = solved();
        flows(x)[6] = 1;
        finds(x);
    }

    // Promise 10, "what comes to a node but the ends goes on": from node 5, where nothing comes to, to the sink.
    private static void flowComesFromNowhere() {
        FlowProofs x = solved();
        flows(x)[7] = 1;
        finds(x);
    }

    // Promise 10, "all edges that leave the cut are full": one unit less, all along the way.
    private static void leavingEdgeNotFull() {
        FlowProofs x = solved();
        flows(x)[2] = 2;
        flows(x)[3] = 2;
        finds(x);
    }

    // Promise 10, "those that enter it empty": from the sink to the source, where nothing has to go on.
    private static void enteringEdgeNotEmpty() {
        FlowProofs x = solved();
        flows(x)[5] = 1;
        finds(x);
    }

    // Promise 10, "so that the cut's capacity is the value": an edge of the cut is wider, and as full.
    private static void anotherValue() {
        FlowProofs x = solved();
        capacities(x)[3] = 4;
        flows(x)[2] = 4;
        flows(x)[3] = 4;
        finds(x);
    }

    /** The cut is {0, 1}; edge 0 costs 1, has one unit left, and a flow of 3. */
    private static FlowProofs solvedChain() {
        FlowProofs x = new FlowProofs(3, 2);
        x.edge(0, 1, 4, 1);
        x.edge(1, 2, 3, 1);
        x.ends(0, 2);
        DUE.is("run", FlowProofs.DONE, x.run(9));
        DUE.is("without a fault: check", true, x.check());
        return x;
    }

    // Promise 10, "its cost, and the potential where it begins, are not below the potential where it ends".
    private static void potentialTooHigh() {
        FlowProofs x = solvedChain();
        potentials(x)[1] = 2;
        finds(x);
    }

    // Promise 10, "for each open arc between nodes of the cut": the arc back of edge 0, which has a flow.
    private static void potentialTooLow() {
        FlowProofs x = solvedChain();
        potentials(x)[1] = 0;
        finds(x);
    }
}
