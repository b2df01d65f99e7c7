/**
 * A WordEvidence whose calls are counted. What an object answers after its 512th call is free, so a test that asked for
 * more would ask what the document does not promise.
 */
final class Counted {
    static final int MOST_CALLS = 512;

    private final WordEvidence object;
    private int calls = 0;

    Counted(int classes) {
        object = new WordEvidence(classes);
    }

    int calls() {
        return calls;
    }

    private WordEvidence call() {
        calls++;
        if (calls > MOST_CALLS) {
            throw new IllegalStateException("the test makes more than " + MOST_CALLS + " calls on one object");
        }
        return object;
    }

    boolean key(char c) {
        return call().key(c);
    }

    int clear() {
        return call().clear();
    }

    int words() {
        return call().words();
    }

    int letter(int k, int i) {
        return call().letter(k, i);
    }

    int train(int id, int label) {
        return call().train(id, label);
    }

    int untrain(int id) {
        return call().untrain(id);
    }

    int sync() {
        return call().sync();
    }

    int fail(int blocks) {
        return call().fail(blocks);
    }

    int pending() {
        return call().pending();
    }

    int documents(int c) {
        return call().documents(c);
    }

    int total(int c) {
        return call().total(c);
    }

    int count(int c, int k) {
        return call().count(c, k);
    }

    int vocabulary() {
        return call().vocabulary();
    }

    int label(int id) {
        return call().label(id);
    }

    int classify() {
        return call().classify();
    }

    int order(int k) {
        return call().order(k);
    }

    int compare(int a, int b) {
        return call().compare(a, b);
    }

    /** Appends the characters of the text. */
    void keys(String text) {
        for (char c : text.toCharArray()) {
            key(c);
        }
    }

    /** Makes the text this one. */
    void type(String text) {
        clear();
        keys(text);
    }

    int trainText(int id, int label, String text) {
        type(text);
        return train(id, label);
    }
}
