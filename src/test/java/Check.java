/** Counts and prints the answers that are not the ones due. */
final class Check {
    private int wrong = 0;
    private String test = "";

    /** A test of its own: what fails in it bears its name, and what it throws does not keep the others from running. */
    void test(String name, Runnable body) {
        test = name + ": ";
        try {
            body.run();
        } catch (RuntimeException | StackOverflowError thrown) {
            wrong++;
            System.out.println(test + "threw " + thrown);
        }
        test = "";
    }

    void due(String call, long got, long want) {
        if (got != want) {
            wrong++;
            System.out.println(test + call + " answered " + got + ", due is " + want);
        }
    }

    void due(String call, boolean got, boolean want) {
        due(call, got ? 1L : 0L, want ? 1L : 0L);
    }

    void due(String call, String got, String want) {
        if (!got.equals(want)) {
            wrong++;
            System.out.println(test + call + " answered " + got + ", due is " + want);
        }
    }

    void end() {
        System.out.println(wrong == 0 ? "all answers are as due" : wrong + " answers are not as due");
        if (wrong != 0) {
            System.exit(1);
        }
    }
}
