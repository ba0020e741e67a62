public final class Promise08PotentialTest {
    private static final int NONE = Integer.MAX_VALUE;

    public static void main(String[] args) {
        Due due = new Due();
        FlowProofs x = new FlowProofs(6, 9);
        x.edge(0, 1, 9, 1);
        x.edge(1, 2, 9, -2);
        x.edge(0, 2, 9, 0);
        x.edge(2, 3, 1, 4);
        x.edge(3, 4, 9, 4);
        x.edge(5, 0, 9, -7);
        x.ends(0, 4);
        for (int v = 0; v < 6; v++) due.is("before: potential(" + v + ")", FlowProofs.BAD, x.potential(v));
        x.run(0);
        for (int v = 0; v < 6; v++) due.is("more: potential(" + v + ")", FlowProofs.BAD, x.potential(v));
        x.run(5);
        int[] want = {0, 1, -1, NONE, NONE, NONE};
        for (int v = 0; v < 6; v++) due.is("solved: potential(" + v + ")", want[v], x.potential(v));
        for (int v : new int[] {-1, 6, 12, Integer.MIN_VALUE, NONE}) {
            due.is("none such: potential(" + v + ")", FlowProofs.BAD, x.potential(v));
        }

        byArcsBack(due);

        FlowProofs circle = Nets.withCircle();
        circle.run(1);
        due.is("circle: potential(0)", FlowProofs.BAD, circle.potential(0));
        due.finish();
    }

    // Solved, node 1 of the second net can be come to only by the arc back of edge 1.
    private static void byArcsBack(Due due) {
        FlowProofs x = Nets.withArcBack();
        x.run(5);
        due.is("full edges: potential(1)", NONE, x.potential(1));
        FlowProofs back = new FlowProofs(4, 4);
        back.edge(0, 1, 2, 1);
        back.edge(1, 2, 2, 1);
        back.edge(2, 3, 2, 1);
        back.edge(0, 2, 1, 8);
        back.ends(0, 3);
        back.run(5);
        int[] want = {0, 7, 8, NONE};
        for (int v = 0; v < 4; v++) due.is("back: potential(" + v + ")", want[v], back.potential(v));
    }
}
