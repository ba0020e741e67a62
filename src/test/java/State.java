import java.util.ArrayList;
import java.util.List;
import java.util.function.Supplier;

/** A state that an object can be in, with its name; make() comes to it on a new object every time. */
record State(String name, Supplier<FlowProofs> maker) {
    FlowProofs make() {
        return maker.get();
    }

    static List<State> all() {
        List<State> all = new ArrayList<>(unsolved());
        all.addAll(solved());
        return all;
    }

    /** Nothing is solved in any of them: so also in those without ends and those with a circle. */
    static List<State> unsolved() {
        List<State> all = new ArrayList<>(withoutEnds());
        all.addAll(withCircle());
        all.addAll(underWay());
        return all;
    }

    static List<State> withoutEnds() {
        return List.of(
            new State("a new object", () -> new FlowProofs(4, 6)),
            new State("edges, but no ends", Nets::withoutEnds),
            new State("edges and a run, but no ends", () -> after(Nets.withoutEnds(), x -> x.run(5))),
            new State("ends that were refused", () -> after(Nets.withoutEnds(), x -> x.ends(0, 0))),
            new State("a circle, but no ends", Nets::circleWithoutEnds));
    }

    /** With ends. */
    static List<State> withCircle() {
        return List.of(
            new State("a circle, not run", Nets::withCircle),
            new State("a circle, run", () -> after(Nets.withCircle(), x -> x.run(5))),
            new State("a circle, run, then other ends", () -> after(Nets.withCircle(), x -> x.run(5), x -> x.ends(1, 4))),
            new State("a circle that came when it was solved", () -> after(Nets.solved(), x -> x.edge(3, 0, 1, -10_000))),
            new State("a circle that came after a round",
                () -> after(Nets.withArcBack(), x -> x.run(1), x -> x.edge(3, 0, 1, -10_000))));
    }

    /** With ends and a way from the one to the other, without a circle, and not solved. */
    static List<State> underWay() {
        return List.of(
            new State("not run", Nets::withArcBack),
            new State("run, but no round done", () -> after(Nets.withArcBack(), x -> x.run(0))),
            new State("one round done", () -> after(Nets.withArcBack(), x -> x.run(1))),
            new State("one round done, m edges", () -> after(Nets.full(), x -> x.run(1))),
            new State("solved, then an edge", () -> after(Nets.solved(), x -> x.edge(1, 3, 1, 9))),
            new State("solved, then the same ends", () -> after(Nets.solved(), x -> x.ends(0, 3))),
            new State("solved, then other ends", () -> after(Nets.solved(), x -> x.ends(1, 2))),
            new State("one round, then an edge", () -> after(Nets.withArcBack(), x -> x.run(1), x -> x.edge(1, 3, 1, 9))),
            new State("one round, then ends", () -> after(Nets.withArcBack(), x -> x.run(1), x -> x.ends(0, 2))));
    }

    static List<State> solved() {
        return List.of(
            new State("solved at once", Nets::solved),
            new State("solved round by round", () -> after(Nets.withArcBack(), x -> x.run(1), x -> x.run(1))),
            new State("solved, m edges", () -> after(Nets.full(), x -> x.run(9))),
            new State("solved, no way at all", () -> after(Nets.withArcBack(), x -> x.ends(3, 0), x -> x.run(0))),
            new State("solved, no edges", () -> after(new FlowProofs(2, 1), x -> x.ends(1, 0), x -> x.run(1))));
    }

    private interface Call {
        void on(FlowProofs x);
    }

    private static FlowProofs after(FlowProofs x, Call... calls) {
        for (Call call : calls) call.on(x);
        return x;
    }
}
