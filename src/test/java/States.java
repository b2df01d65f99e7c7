/** Objects in states that several tests begin with. */
final class States {
    static final String TWENTY_WORDS = "a b c d e f g h i j k l m n o p q r s t";

    private States() {
    }

    static String words(int many) {
        return TWENTY_WORDS.substring(0, Math.max(0, 2 * many - 1));
    }

    /** So many blocks are pending, each a change of its own: document 31, without words, comes and goes. */
    static Counted withPending(int blocks) {
        Counted x = new Counted(4);
        for (int i = 0; i < blocks; i++) {
            if (i % 2 == 0) {
                x.train(31, 0);
            } else {
                x.untrain(31);
            }
        }
        return x;
    }

    /** Documents 0, 1, .. of class 1, without words, each of a pending block. */
    static Counted withPendingDocuments(int many) {
        Counted x = new Counted(4);
        for (int id = 0; id < many; id++) {
            x.train(id, 1);
        }
        return x;
    }

    /** The same, but safe; no block is pending. */
    static Counted withDocuments(int many) {
        Counted x = withPendingDocuments(many);
        x.sync();
        return x;
    }

    /** Documents 0 .. 9, and 24 blocks are pending. */
    static Counted withManyAndFull() {
        Counted x = withDocuments(10);
        for (int i = 0; i < 12; i++) {
            x.untrain(9);
            x.train(9, 1);
        }
        return x;
    }

    /** Documents 0 .. 3, one of each class, of 6 blocks each; 24 blocks are pending, and nothing is safe. */
    static Counted withFourTimesSix() {
        Counted x = new Counted(4);
        x.keys(TWENTY_WORDS);
        for (int id = 0; id < 4; id++) {
            x.train(id, id);
        }
        return x;
    }

    /** Changes of 6, 1, 2, 3, 1 and 1 blocks on a safe document 9; 14 blocks are pending. */
    static Counted withChanges() {
        Counted x = new Counted(4);
        x.trainText(9, 3, "safe tea");
        x.sync();
        x.trainText(0, 0, TWENTY_WORDS);
        x.trainText(1, 1, "");
        x.trainText(2, 2, "tea");
        x.trainText(3, 3, "tea cup tea milk tea");
        x.untrain(9);
        x.untrain(0);
        x.type("tea safe");
        return x;
    }
}
