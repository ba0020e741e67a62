/** Looks that nothing of what was solved is left. */
final class Gone {
    private Gone() {
    }

    static void all(Due due, String when, FlowProofs x) {
        due.is(when + ": value", FlowProofs.BAD, x.value());
        due.is(when + ": cost", 0, x.cost());
        due.is(when + ": check", false, x.check());
        due.is(when + ": rounds", 0, x.count(2));
        due.is(when + ": what flows", 0, x.count(3));
        for (int e = 0; e < x.count(1); e++) due.is(when + ": flow(" + e + ")", 0, x.flow(e));
        for (int v = 0; v < x.count(0); v++) {
            due.is(when + ": potential(" + v + ")", FlowProofs.BAD, x.potential(v));
            due.is(when + ": inCut(" + v + ")", false, x.inCut(v));
        }
    }
}
