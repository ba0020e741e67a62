public final class Promise05ValueTest {
    public static void main(String[] args) {
        Due due = new Due();
        FlowProofs x = Nets.withArcBack();
        due.is("before", FlowProofs.BAD, x.value());
        x.run(1);
        due.is("while there is more to do", FlowProofs.BAD, x.value());
        x.run(1);
        due.is("solved", 6, x.value());
        due.is("asked again", 6, x.value());
        due.is("with a circle", FlowProofs.BAD, Nets.withCircle().value());
        FlowProofs none = new FlowProofs(3, 3);
        none.edge(0, 1, 5, 5);
        none.ends(0, 2);
        none.run(1);
        due.is("no way", 0, none.value());
        due.finish();
    }
}
