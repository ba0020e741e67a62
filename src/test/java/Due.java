/**
 * The tests of one part of the document, a test of its own for each sentence: prints every answer that
 * is not the one that is due, and whether the sentence holds, and ends the program.
 */
final class Due {
    private final String part;
    private String sentence = "";
    private int wrong = 0;

    Due(String part) {
        this.part = part;
    }

    /** A test that throws is wrong, and the tests after it are run all the same. */
    void holds(String words, Runnable test) {
        sentence = part + ", " + words;
        int before = wrong;
        try {
            test.run();
        } catch (RuntimeException thrown) {
            tellWrong("threw " + thrown);
        }
        System.out.println((wrong == before ? "holds: " : "BROKEN: ") + sentence);
    }

    void is(String call, long want, long got) {
        if (got != want) tellWrong(call + " answered " + got + ", due is " + want);
    }

    void is(String call, boolean want, boolean got) {
        if (got != want) tellWrong(call + " answered " + got + ", due is " + want);
    }

    void same(String what, String want, String got) {
        if (!got.equals(want)) tellWrong(what + "\n    is  " + got + "\n    due " + want);
    }

    void finish() {
        System.out.println(wrong == 0 ? "all answers are as due" : wrong + " answers are not as due");
        if (wrong != 0) System.exit(1);
    }

    private void tellWrong(String told) {
        wrong++;
        System.out.println("  " + sentence + ": " + told);
    }
}
