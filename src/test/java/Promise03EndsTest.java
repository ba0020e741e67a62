public final class Promise03EndsTest {
    private static final Due DUE = new Due();

    public static void main(String[] args) {
        wrongEndsAreRefused();
        whatWasSolvedIsGone();
        refusedEndsChangeNothing();
        DUE.finish();
    }

    private static void wrongEndsAreRefused() {
        FlowProofs x = new FlowProofs(4, 3);
        int min = Integer.MIN_VALUE;
        int max = Integer.MAX_VALUE;
        int[][] wrong = {{0, 0}, {3, 3}, {-1, -1}, {-1, 0}, {0, -1}, {4, 0}, {0, 4}, {min, 1}, {1, min}, {max, 1}, {1, max}};
        for (int[] w : wrong) {
            DUE.is("ends(" + w[0] + ", " + w[1] + ")", false, x.ends(w[0], w[1]));
            DUE.is("run after it", FlowProofs.NO_ENDS, x.run(1));
        }
        DUE.is("ends(0, 3)", true, x.ends(0, 3));
        DUE.is("ends(3, 0)", true, x.ends(3, 0));
        DUE.is("ends(2, 1)", true, x.ends(2, 1));
    }

    private static void whatWasSolvedIsGone() {
        FlowProofs x = Nets.solved();
        DUE.is("the same ends again", true, x.ends(0, 3));
        DUE.is("value", FlowProofs.BAD, x.value());
        DUE.is("check", false, x.check());
        DUE.is("flow(0)", 0, x.flow(0));
        DUE.is("count(2)", 0, x.count(2));
        DUE.is("count(3)", 0, x.count(3));
        DUE.is("next", 3, x.next());
        DUE.is("other ends", true, x.ends(0, 2));
        DUE.is("other run", FlowProofs.DONE, x.run(10));
        DUE.is("other value", 6, x.value());
        DUE.is("other cost", 18, x.cost());
        DUE.is("turned ends", true, x.ends(3, 0));
        DUE.is("turned value before a run", FlowProofs.BAD, x.value());
        DUE.is("turned check before a run", false, x.check());
        DUE.is("turned run", FlowProofs.DONE, x.run(10));
        DUE.is("turned value", 0, x.value());
    }

    private static void refusedEndsChangeNothing() {
        FlowProofs x = Nets.solved();
        DUE.is("ends(1, 1)", false, x.ends(1, 1));
        DUE.is("ends(0, 4)", false, x.ends(0, 4));
        DUE.is("ends(-1, 2)", false, x.ends(-1, 2));
        DUE.is("value stays", 6, x.value());
        DUE.is("check stays", true, x.check());
        DUE.is("flow stays", 4, x.flow(0));
    }
}
