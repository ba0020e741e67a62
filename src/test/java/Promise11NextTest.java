public final class Promise11NextTest {
    public static void main(String[] args) {
        Due due = new Due();
        FlowProofs x = Nets.withArcBack();
        due.is("before the first run", 3, x.next());
        due.is("asked again", 3, x.next());
        due.is("asking does no round", 0, x.count(2));
        x.run(1);
        due.is("after one round", 11, x.next());
        x.run(1);
        due.is("solved", FlowProofs.BAD, x.next());

        due.is("circle before a run", FlowProofs.BAD, Nets.withCircle().next());
        FlowProofs noEnds = new FlowProofs(2, 2);
        noEnds.edge(0, 1, 1, 5);
        due.is("no ends", FlowProofs.BAD, noEnds.next());
        noEnds.ends(1, 0);
        due.is("no way", FlowProofs.BAD, noEnds.next());
        due.is("asking does not solve", FlowProofs.BAD, noEnds.value());
        noEnds.ends(0, 1);
        due.is("the other way round", 5, noEnds.next());

        FlowProofs below = new FlowProofs(3, 2);
        below.edge(0, 1, 1, -10_000);
        below.edge(1, 2, 1, 9_999);
        below.ends(0, 2);
        due.is("a cost of -1", -1, below.next());
        due.finish();
    }
}
