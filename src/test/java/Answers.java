/** All that an object answers, as one text, to tell whether a call has changed anything. */
final class Answers {
    private Answers() {
    }

    /** What the calls that only ask answer now. */
    static String now(FlowProofs x) {
        StringBuilder all = new StringBuilder();
        all.append("counts");
        for (int what = 0; what <= 3; what++) all.append(' ').append(x.count(what));
        all.append(", value ").append(x.value()).append(", cost ").append(x.cost());
        all.append(", next ").append(x.next()).append(", check ").append(x.check());
        all.append(", flows");
        for (int e = 0; e < x.count(1); e++) all.append(' ').append(x.flow(e));
        all.append(", potentials");
        for (int v = 0; v < x.count(0); v++) all.append(' ').append(x.potential(v));
        all.append(", cut");
        for (int v = 0; v < x.count(0); v++) all.append(' ').append(x.inCut(v) ? v : "-");
        return all.toString();
    }

    /** What they answer now and while it is solved round by round, with one more edge and with other ends. */
    static String nowAndLater(FlowProofs x) {
        StringBuilder all = new StringBuilder(now(x));
        for (int round = 0; round < 3; round++) all.append("; run(1) ").append(x.run(1)).append(' ').append(now(x));
        all.append("; run(10000) ").append(x.run(10_000)).append(' ').append(now(x));
        all.append("; edge ").append(x.edge(0, 1, 1, 10_000)).append(" run ").append(x.run(10_000)).append(' ').append(now(x));
        all.append("; ends ").append(x.ends(1, 0)).append(" run ").append(x.run(10_000)).append(' ').append(now(x));
        return all.toString();
    }
}
