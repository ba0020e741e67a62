public final class Promise12CountTest {
    private static final Due DUE = new Due();

    public static void main(String[] args) {
        FlowProofs x = Nets.withArcBack();
        counts("before", x, 4, 5, 0, 0);
        x.run(1);
        counts("one round", x, 4, 5, 1, 4);
        x.run(9);
        counts("solved", x, 4, 5, 2, 6);
        x.run(9);
        counts("solved before", x, 4, 5, 2, 6);
        x.ends(0, 3);
        counts("gone", x, 4, 5, 0, 0);
        FlowProofs circle = Nets.withCircle();
        circle.run(4);
        counts("circle", circle, 5, 3, 0, 0);
        for (int what : new int[] {-1, 4, 5, Integer.MIN_VALUE, Integer.MAX_VALUE}) {
            DUE.is("count(" + what + ")", FlowProofs.BAD, x.count(what));
        }
        DUE.finish();
    }

    private static void counts(String when, FlowProofs x, int... want) {
        for (int what = 0; what < want.length; what++) {
            DUE.is(when + ": count(" + what + ")", want[what], x.count(what));
        }
    }
}
