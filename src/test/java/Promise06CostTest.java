public final class Promise06CostTest {
    public static void main(String[] args) {
        Due due = new Due();
        FlowProofs x = Nets.withArcBack();
        due.is("before", 0, x.cost());
        x.run(1);
        due.is("while there is more to do", 0, x.cost());
        x.run(1);
        due.is("solved", 4 * 3 + 2 * 12 - 2, x.cost());
        FlowProofs circle = Nets.withCircle();
        circle.run(1);
        due.is("with a circle", 0, circle.cost());

        FlowProofs great = new FlowProofs(2, 3);
        great.edge(0, 1, 1_000_000, 10_000);
        great.ends(0, 1);
        great.run(1);
        due.is("beyond an int", 10_000_000_000L, great.cost());
        great.edge(0, 1, 1_000_000, -10_000);
        great.edge(0, 1, 1_000_000, -9_999);
        great.run(3);
        due.is("below 0", -9_999_000_000L, great.cost());
        due.finish();
    }
}
