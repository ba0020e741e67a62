public final class Promise10CheckTest {
    public static void main(String[] args) {
        Due due = new Due();
        FlowProofs x = Nets.withArcBack();
        due.is("before", false, x.check());
        x.run(1);
        due.is("while there is more to do", false, x.check());
        x.run(1);
        due.is("solved", true, x.check());
        x.run(1);
        due.is("solved before", true, x.check());
        x.ends(3, 0);
        due.is("gone", false, x.check());
        x.run(0);
        due.is("turned, nothing flows", true, x.check());
        FlowProofs circle = Nets.withCircle();
        circle.run(1);
        due.is("circle", false, circle.check());
        due.is("no ends", false, new FlowProofs(2, 1).check());

        // A circle of cost 0 beside the way, an edge into the cut, an edge between nodes outside.
        FlowProofs more = new FlowProofs(6, 9);
        more.edge(0, 1, 3, 0);
        more.edge(1, 0, 3, 0);
        more.edge(1, 2, 1, -3);
        more.edge(2, 1, 1, 3);
        more.edge(2, 3, 5, 1);
        more.edge(4, 5, 5, -9);
        more.edge(3, 0, 5, 2);
        more.ends(0, 3);
        due.is("run", FlowProofs.DONE, more.run(9));
        due.is("solved with more around", true, more.check());
        due.finish();
    }
}
