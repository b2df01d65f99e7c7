/** Counts and prints the answers that are not the ones due. */
final class Check {
    private int wrong = 0;

    void due(String call, long got, long want) {
        if (got != want) {
            wrong++;
            System.out.println(call + " answered " + got + ", due is " + want);
        }
    }

    void due(String call, boolean got, boolean want) {
        due(call, got ? 1L : 0L, want ? 1L : 0L);
    }

    void end() {
        System.out.println(wrong == 0 ? "all answers are as due" : wrong + " answers are not as due");
        if (wrong != 0) {
            System.exit(1);
        }
    }

    /** Makes the text of x this one. */
    static void type(WordEvidence x, String text) {
        x.clear();
        for (char c : text.toCharArray()) {
            x.key(c);
        }
    }

    static int trainText(WordEvidence x, int id, int label, String text) {
        type(x, text);
        return x.train(id, label);
    }
}
