/** Compares answers with those that are due, prints every wrong one, and ends the test. */
final class Due {
    private int wrong = 0;

    void is(String call, long want, long got) {
        if (got == want) return;
        wrong++;
        System.out.println(call + " answered " + got + ", due is " + want);
    }

    void is(String call, boolean want, boolean got) {
        is(call, want ? 1L : 0L, got ? 1L : 0L);
    }

    void finish() {
        System.out.println(wrong == 0 ? "all answers are as due" : wrong + " answers are not as due");
        if (wrong != 0) System.exit(1);
    }
}
