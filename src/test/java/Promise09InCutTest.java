public final class Promise09InCutTest {
    public static void main(String[] args) {
        Due due = new Due();
        FlowProofs x = new FlowProofs(5, 9);
        x.edge(0, 1, 2, 1);
        x.edge(1, 2, 2, 1);
        x.edge(2, 3, 2, 1);
        x.edge(0, 2, 1, 8);
        x.edge(4, 0, 1, 1);
        x.ends(0, 3);
        for (int v = 0; v < 5; v++) due.is("before: inCut(" + v + ")", false, x.inCut(v));
        x.run(0);
        for (int v = 0; v < 5; v++) due.is("more: inCut(" + v + ")", false, x.inCut(v));
        x.run(1);
        boolean[] want = {true, true, true, false, false};
        for (int v = 0; v < 5; v++) due.is("solved: inCut(" + v + ")", want[v], x.inCut(v));
        for (int v : new int[] {-1, 5, 12, Integer.MIN_VALUE, Integer.MAX_VALUE}) {
            due.is("none such: inCut(" + v + ")", false, x.inCut(v));
        }
        x.edge(0, 1, 0, 0);
        due.is("gone: inCut(0)", false, x.inCut(0));
        FlowProofs circle = Nets.withCircle();
        circle.run(1);
        due.is("circle: inCut(0)", false, circle.inCut(0));
        due.finish();
    }
}
