/** Each promise of the document, with its edges and with wrong inputs. */
public final class PromiseTest {
    private static final int LEAST = Integer.MIN_VALUE;
    private static final int GREATEST = Integer.MAX_VALUE;
    private static final String TWENTY_WORDS = "a b c d e f g h i j k l m n o p q r s t ";
    private static final Check CHECK = new Check();

    private static void due(String call, long got, long want) {
        CHECK.due(call, got, want);
    }

    private static void due(String call, boolean got, boolean want) {
        CHECK.due(call, got, want);
    }

    private static Counted withText(String text) {
        Counted x = new Counted(4);
        x.type(text);
        return x;
    }

    /** C as it shows from outside: the classes that total knows. */
    private static int classesOf(int asked) {
        Counted x = new Counted(asked);
        int found = 0;
        for (int c = 0; c < 10; c++) {
            if (x.total(c) != WordEvidence.NONE) {
                found++;
            }
        }
        return found;
    }

    private static void promise1NewObject() {
        due("1: C of 2", classesOf(2), 2);
        due("1: C of 3", classesOf(3), 3);
        due("1: C of 4", classesOf(4), 4);
        due("1: C of 1", classesOf(1), 2);
        due("1: C of 0", classesOf(0), 2);
        due("1: C of 5", classesOf(5), 4);
        due("1: C of the least int", classesOf(LEAST), 2);
        due("1: C of the greatest int", classesOf(GREATEST), 4);
        Counted x = new Counted(3);
        due("1: documents(-1)", x.documents(-1), 0);
        due("1: pending()", x.pending(), 0);
        due("1: words()", x.words(), 0);
        due("1: clear()", x.clear(), 0);
        due("1: fail(9)", x.fail(9), 0);
        for (int id = 0; id < 32; id++) {
            due("1: label(" + id + ")", x.label(id), -1);
        }
    }

    private static void promise2Key() {
        for (int code = 0; code < 65536; code++) {
            due("2: key of code " + code, new Counted(2).key((char) code), code >= 32 && code <= 126);
        }
        Counted x = new Counted(2);
        due("2: a refused key", x.key((char) 31), false);
        due("2: a refused key", x.key((char) 127), false);
        due("2: refused keys leave the text", x.clear(), 0);
        for (int i = 0; i < 40; i++) {
            due("2: key " + i, x.key(i % 2 == 0 ? 'q' : ' '), true);
        }
        due("2: key 40", x.key('z'), false);
        due("2: key 40", x.key(' '), false);
        due("2: words of a full text", x.words(), 20);
        due("2: clear of a full text", x.clear(), 40);
        due("2: key after clear", x.key('z'), true);
        due("2: what it appended", x.letter(0, 0), 'z');
    }

    private static void promise3Clear() {
        Counted x = withText("one two!");
        due("3: clear()", x.clear(), 8);
        due("3: words() after it", x.words(), 0);
        due("3: letter(0, 0) after it", x.letter(0, 0), -1);
        due("3: clear() again", x.clear(), 0);
        x.key('x');
        due("3: words() of the new text", x.words(), 1);
        due("3: letter(0, 0) of the new text", x.letter(0, 0), 'x');
        due("3: letter(0, 1) of the new text", x.letter(0, 1), -1);
        x.train(3, 1);
        x.clear();
        due("3: documents stay", x.label(3), 1);
        due("3: blocks stay", x.pending(), 2);
    }

    private static void promise4Words() {
        due("4: of nothing", withText("").words(), 0);
        due("4: of spaces", withText("   ").words(), 0);
        due("4: of marks", withText("!?./@[`{~:").words(), 0);
        due("4: of one", withText("word").words(), 1);
        due("4: of one between spaces", withText("  word  ").words(), 1);
        due("4: of two", withText("word,word").words(), 2);
        due("4: of a digit run", withText("a1B2 3").words(), 2);
        due("4: of a long run", withText("abcdefghijklmnopqrstuvwxyz0123456789ABCD").words(), 1);
        due("4: of twenty", withText(TWENTY_WORDS).words(), 20);
        due("4: of twenty, parted first", withText(" a b c d e f g h i j k l m n o p q r s t").words(), 20);
        for (int code = 32; code < 127; code++) {
            boolean parts = !Character.isLetterOrDigit(code);
            due("4: a" + (char) code + "b", withText("a" + (char) code + "b").words(), parts ? 2 : 1);
        }
    }

    private static void promise5Letter() {
        Counted x = withText("-aZ09 ABCDEFGHIJ,abcdefgh z");
        due("5: letter(0, 0)", x.letter(0, 0), 'a');
        due("5: letter(0, 1)", x.letter(0, 1), 'z');
        due("5: letter(0, 2)", x.letter(0, 2), '0');
        due("5: letter(0, 3)", x.letter(0, 3), '9');
        due("5: letter(0, 4)", x.letter(0, 4), -1);
        for (int i = 0; i < 8; i++) {
            due("5: letter(1, " + i + ")", x.letter(1, i), 'a' + i);
            due("5: letter(2, " + i + ")", x.letter(2, i), 'a' + i);
        }
        due("5: letter(1, 8)", x.letter(1, 8), -1);
        due("5: letter(2, 8)", x.letter(2, 8), -1);
        due("5: letter(3, 0)", x.letter(3, 0), 'z');
        due("5: letter(4, 0)", x.letter(4, 0), -1);
        due("5: letter(-1, 0)", x.letter(-1, 0), -1);
        due("5: letter(0, -1)", x.letter(0, -1), -1);
        due("5: letter(0, 64)", x.letter(0, 64), -1);
        due("5: letter(least, least)", x.letter(LEAST, LEAST), -1);
        due("5: letter(0, least)", x.letter(0, LEAST), -1);
        due("5: letter(greatest, greatest)", x.letter(GREATEST, GREATEST), -1);
        due("5: letter(0, greatest)", x.letter(0, GREATEST), -1);
        for (int code = 'A'; code <= 'Z'; code++) {
            due("5: of " + (char) code, withText("" + (char) code).letter(0, 0), code + 32);
        }
    }

    private static void promise6Train() {
        String[] texts = {"", "a", "a a a a", "a b c d e", "a b c d e f g h", "a b c d e f g h i", TWENTY_WORDS};
        int[] blocks = {1, 2, 2, 3, 3, 4, 6};
        for (int i = 0; i < texts.length; i++) {
            Counted x = new Counted(4);
            due("6: train of " + texts[i], x.trainText(31, 3, texts[i]), blocks[i]);
            due("6: blocks of " + texts[i], x.pending(), blocks[i]);
            due("6: class of " + texts[i], x.label(31), 3);
        }
        Counted x = withText("Tea tea coffee");
        due("6: train(0, 0)", x.train(0, 0), 2);
        due("6: the text stays", x.clear(), 14);
        x.type("tea");
        due("6: the document keeps its words", x.count(0, 0), 2);
        trainIsRefused();
    }

    private static void trainIsRefused() {
        Counted x = new Counted(3);
        int[][] wrong = {{-1, 0}, {32, 0}, {LEAST, 0}, {GREATEST, 0}, {0, -1}, {0, 3}, {0, LEAST}, {0, GREATEST}};
        for (int[] pair : wrong) {
            due("6: train(" + pair[0] + ", " + pair[1] + ")", x.train(pair[0], pair[1]), -1);
        }
        due("6: refused calls write nothing", x.pending(), 0);
        for (int id = 0; id < 10; id++) {
            due("6: train(" + id + ", 2)", x.train(id, 2), 1);
        }
        due("6: eleventh", x.train(10, 2), -4);
        due("6: PRESENT before MANY", x.train(9, 0), -2);
        due("6: NONE before PRESENT", x.train(9, 3), -1);
        due("6: refused calls write nothing", x.pending(), 10);
        due("6: the class stays", x.label(9), 2);
        for (int i = 0; i < 7; i++) {
            x.untrain(9);
            x.train(9, 1);
        }
        due("6: a full log", x.pending(), 24);
        due("6: MANY before FULL", x.train(10, 0), -4);
        x = new Counted(2);
        for (int id = 0; id < 3; id++) {
            x.trainText(id, 0, TWENTY_WORDS);
        }
        x.trainText(3, 0, "a");
        due("6: six blocks where four are free", x.trainText(4, 1, TWENTY_WORDS), -5);
        due("6: five blocks where four are free", x.trainText(4, 1, "a b c d e f g h i j k l m"), -5);
        due("6: FULL writes nothing", x.pending(), 20);
        due("6: FULL trains nothing", x.label(4), -1);
        due("6: four blocks where four are free", x.trainText(4, 1, "a b c d e f g h i j k l"), 4);
        due("6: PRESENT before FULL", x.train(4, 1), -2);
        due("6: NONE before FULL", x.train(5, 2), -1);
        due("6: no block free", x.trainText(5, 1, ""), -5);
    }

    private static void promise7Untrain() {
        Counted x = new Counted(4);
        x.trainText(0, 3, "a b");
        x.trainText(31, 1, "a");
        due("7: untrain(-1)", x.untrain(-1), -1);
        due("7: untrain(32)", x.untrain(32), -1);
        due("7: untrain(least)", x.untrain(LEAST), -1);
        due("7: untrain(greatest)", x.untrain(GREATEST), -1);
        due("7: untrain(1)", x.untrain(1), -3);
        due("7: refused calls write nothing", x.pending(), 4);
        due("7: untrain(0)", x.untrain(0), 3);
        due("7: it takes a block", x.pending(), 5);
        due("7: it is not in force", x.label(0), -1);
        due("7: nor are its words", x.vocabulary(), 1);
        due("7: the other stays", x.label(31), 1);
        due("7: untrain(0) again", x.untrain(0), -3);
        due("7: the id is free", x.train(0, 2), 2);
        due("7: untrain(31)", x.untrain(31), 1);
        x = new Counted(2);
        for (int id = 0; id < 4; id++) {
            x.trainText(id, 1, TWENTY_WORDS);
        }
        due("7: a full log", x.untrain(2), -5);
        due("7: FULL changes nothing", x.label(2), 1);
        due("7: ABSENT before FULL", x.untrain(4), -3);
        due("7: NONE before FULL", x.untrain(32), -1);
        x.sync();
        due("7: after a sync", x.untrain(2), 1);
    }

    private static void promise8Sync() {
        Counted x = new Counted(2);
        due("8: sync of nothing", x.sync(), 0);
        x.trainText(1, 0, "a b c d e");
        x.trainText(2, 1, "");
        due("8: sync()", x.sync(), 4);
        due("8: pending() after it", x.pending(), 0);
        due("8: sync() again", x.sync(), 0);
        due("8: a failure loses nothing", x.fail(0), 0);
        due("8: what was synced is found", x.documents(-1), 2);
        x.untrain(1);
        due("8: sync of an untraining", x.sync(), 1);
        x.fail(0);
        due("8: the untraining is safe", x.label(1), -1);
    }

    /** Trains of 2, 1, 3 blocks and an untraining of the first, on a safe document 9. */
    private static Counted beforeFailure() {
        Counted x = new Counted(3);
        x.trainText(9, 2, "safe");
        x.sync();
        x.trainText(0, 0, "tea");
        x.trainText(1, 1, "");
        x.trainText(2, 2, "a b c d e");
        x.untrain(0);
        return x;
    }

    private static void promise9Fail() {
        int[] lost = {4, 4, 3, 2, 2, 2, 1, 0, 0};
        for (int blocks = 0; blocks < lost.length; blocks++) {
            Counted x = beforeFailure();
            String call = "9: fail(" + blocks + ")";
            due(call, x.fail(blocks), lost[blocks]);
            due(call + " document 0", x.label(0), blocks >= 2 && blocks < 7 ? 0 : -1);
            due(call + " document 1", x.label(1), blocks >= 3 ? 1 : -1);
            due(call + " document 2", x.label(2), blocks >= 6 ? 2 : -1);
            due(call + " document 9", x.label(9), 2);
            due(call + " pending", x.pending(), 0);
            due(call + " the text stays", x.words(), 5);
            int found = x.documents(-1);
            due(call + " then fail(0)", x.fail(0), 0);
            due(call + " what was found is safe", x.documents(-1), found);
        }
        due("9: fail(-1)", beforeFailure().fail(-1), 4);
        due("9: fail(least)", beforeFailure().fail(LEAST), 4);
        due("9: fail(greatest)", beforeFailure().fail(GREATEST), 0);
        failBringsBack();
    }

    private static void failBringsBack() {
        Counted x = beforeFailure();
        x.untrain(9);
        x.trainText(9, 0, "other other");
        due("9: the id's document before", x.label(9), 0);
        due("9: a complete change behind a lost one is lost", x.fail(5), 4);
        due("9: the safe document is back", x.label(9), 2);
        due("9: the text stays", x.words(), 2);
        x.type("other safe");
        due("9: with its words", x.count(2, 1), 1);
        due("9: not with the lost ones", x.count(0, 0), 0);
        due("9: the log has its room again", x.pending(), 0);
        for (int i = 0; i < 12; i++) {
            x.untrain(9);
            x.trainText(9, 1, "");
        }
        due("9: all of it", x.pending(), 24);
        due("9: a change after a change of one id", x.fail(23), 1);
        due("9: only the last is lost", x.label(9), -1);
    }

    private static void promise10Pending() {
        Counted x = new Counted(2);
        due("10: pending() at first", x.pending(), 0);
        x.trainText(0, 0, "a b c d");
        due("10: after a training", x.pending(), 2);
        x.trainText(1, 0, "a b c d e");
        due("10: after another", x.pending(), 5);
        x.untrain(0);
        due("10: after an untraining", x.pending(), 6);
        x.sync();
        due("10: after a sync", x.pending(), 0);
        x.untrain(1);
        due("10: after one more", x.pending(), 1);
        x.fail(0);
        due("10: after a failure", x.pending(), 0);
    }

    private static void promise11Documents() {
        Counted x = new Counted(3);
        x.trainText(4, 2, "a");
        x.trainText(5, 2, "");
        x.trainText(31, 0, "a");
        due("11: documents(-1)", x.documents(-1), 3);
        due("11: documents(0)", x.documents(0), 1);
        due("11: documents(1)", x.documents(1), 0);
        due("11: documents(2)", x.documents(2), 2);
        due("11: documents(3)", x.documents(3), -1);
        due("11: documents(-2)", x.documents(-2), -1);
        due("11: documents(least)", x.documents(LEAST), -1);
        due("11: documents(greatest)", x.documents(GREATEST), -1);
    }

    private static void promise12Total() {
        Counted x = new Counted(3);
        x.trainText(4, 2, "a a b");
        x.trainText(5, 2, "a");
        x.trainText(6, 0, "c d");
        due("12: total(0)", x.total(0), 2);
        due("12: total(1)", x.total(1), 0);
        due("12: total(2)", x.total(2), 4);
        due("12: total(3)", x.total(3), -1);
        due("12: total(-1)", x.total(-1), -1);
        due("12: total(least)", x.total(LEAST), -1);
        due("12: total(greatest)", x.total(GREATEST), -1);
        x.untrain(4);
        due("12: total(2) after an untraining", x.total(2), 1);
    }

    private static void promise13Count() {
        Counted x = new Counted(3);
        x.trainText(4, 2, "a A b abcdefghX");
        x.trainText(5, 2, "a ab");
        x.trainText(6, 0, "b");
        x.type("A b ABCDEFGHYZ c abcdefg");
        due("13: a in 2", x.count(2, 0), 3);
        due("13: a in 0", x.count(0, 0), 0);
        due("13: b in 2", x.count(2, 1), 1);
        due("13: b in 0", x.count(0, 1), 1);
        due("13: b in 1", x.count(1, 1), 0);
        due("13: eight characters count", x.count(2, 2), 1);
        due("13: an unknown word", x.count(2, 3), 0);
        due("13: seven of eight characters", x.count(2, 4), 0);
        due("13: no such word", x.count(2, 5), -1);
        due("13: no such word", x.count(2, -1), -1);
        due("13: no such word", x.count(2, LEAST), -1);
        due("13: no such word", x.count(2, GREATEST), -1);
        due("13: no such class", x.count(3, 0), -1);
        due("13: no such class", x.count(-1, 0), -1);
        due("13: no such class", x.count(LEAST, 0), -1);
        due("13: no such class", x.count(GREATEST, 0), -1);
    }

    private static void promise14Vocabulary() {
        Counted x = new Counted(2);
        due("14: at first", x.vocabulary(), 0);
        x.type("not learned");
        due("14: the text does not count", x.vocabulary(), 0);
        x.trainText(1, 0, "a b A b");
        due("14: of one document", x.vocabulary(), 2);
        x.trainText(0, 1, "b c abcdefgh1 abcdefgh2");
        due("14: of two", x.vocabulary(), 4);
        x.untrain(1);
        due("14: of the other", x.vocabulary(), 3);
        x.fail(0);
        due("14: after a failure", x.vocabulary(), 0);
        int different = 0;
        for (int id = 0; id < 10; id++) {
            StringBuilder text = new StringBuilder();
            for (int k = 0; k < 13; k++) {
                text.append((char) ('a' + id)).append((char) ('a' + k)).append('.');
            }
            x.trainText(id, id % 2, text.toString());
            x.sync();
            different += 13;
            due("14: of many", x.vocabulary(), different);
        }
    }

    private static void promise15Label() {
        Counted x = new Counted(4);
        x.trainText(0, 3, "a");
        x.trainText(31, 0, "a");
        due("15: label(0)", x.label(0), 3);
        due("15: label(31)", x.label(31), 0);
        due("15: label(1)", x.label(1), -1);
        due("15: label(-1)", x.label(-1), -1);
        due("15: label(32)", x.label(32), -1);
        due("15: label(least)", x.label(LEAST), -1);
        due("15: label(greatest)", x.label(GREATEST), -1);
        x.untrain(0);
        due("15: label of an untrained one", x.label(0), -1);
    }

    private static void promise16Classify() {
        Counted x = withText("tea");
        due("16: without documents", x.classify(), -1);
        x.trainText(0, 2, "tea cup");
        due("16: of one", x.classify(), 2);
        x.trainText(1, 1, "rain sky");
        x.type("Tea");
        due("16: by the word", x.classify(), 2);
        x.type("SKY tea sky");
        due("16: by each time it stands there", x.classify(), 1);
        x.type("sky tea");
        due("16: of equal ones the lesser", x.classify(), 1);
        x.type("unknown");
        due("16: of equal ones the lesser", x.classify(), 1);
        x.trainText(2, 2, "");
        due("16: by the documents alone", x.classify(), 2);
        x.fail(0);
        due("16: without documents again", x.classify(), -1);
    }

    private static void promise17Order() {
        Counted x = withText("tea");
        for (int k = 0; k < 4; k++) {
            due("17: order(" + k + ") without documents", x.order(k), k);
        }
        x.trainText(0, 3, "tea tea");
        x.trainText(1, 1, "tea sky");
        x.type("tea");
        int[] classes = {3, 1, 0, 2};
        for (int k = 0; k < 4; k++) {
            due("17: order(" + k + ")", x.order(k), classes[k]);
        }
        due("17: order(4)", x.order(4), -1);
        due("17: order(-1)", x.order(-1), -1);
        due("17: order(least)", x.order(LEAST), -1);
        due("17: order(greatest)", x.order(GREATEST), -1);
        Counted two = new Counted(2);
        two.trainText(0, 1, "a");
        due("17: order(0) of two", two.order(0), 1);
        due("17: order(1) of two", two.order(1), 0);
        due("17: order(2) of two", two.order(2), -1);
    }

    private static void promise18Compare() {
        Counted x = new Counted(3);
        due("18: without documents", x.compare(0, 1), 0);
        x.trainText(0, 0, "a b");
        x.trainText(1, 1, "a c d e f");
        x.type("a");
        due("18: compare(0, 1)", x.compare(0, 1), 1);
        due("18: compare(1, 0)", x.compare(1, 0), -1);
        due("18: compare(1, 1)", x.compare(1, 1), 0);
        due("18: compare(2, 2)", x.compare(2, 2), 0);
        due("18: compare(1, 2)", x.compare(1, 2), 1);
        due("18: compare(2, 1)", x.compare(2, 1), -1);
        int[] wrong = {-1, 3, LEAST, GREATEST};
        for (int c : wrong) {
            due("18: compare(0, " + c + ")", x.compare(0, c), -2);
            due("18: compare(" + c + ", 0)", x.compare(c, 0), -2);
            due("18: compare(" + c + ", " + c + ")", x.compare(c, c), -2);
        }
        Counted even = new Counted(2);
        even.trainText(0, 0, "a a");
        even.trainText(1, 0, "b b");
        even.trainText(2, 1, "c");
        even.type("a");
        due("18: 2 * 3/8 against 1 * 1/5", even.compare(0, 1), 1);
        even.type("c c c");
        due("18: 2 * 1/8^3 against 1 * 2^3/5^3", even.compare(0, 1), -1);
        even = new Counted(2);
        even.trainText(0, 0, "a");
        even.trainText(1, 0, "a");
        even.trainText(2, 1, "");
        even.type("z");
        due("18: 2 * 1/4 against 1 * 1/2", even.compare(0, 1), 0);
        due("18: 1 * 1/2 against 2 * 1/4", even.compare(1, 0), 0);
        comparesExactly();
    }

    /** Chances that a long or a double can't tell apart, or overflows on. */
    private static void comparesExactly() {
        Counted x = withText(TWENTY_WORDS);
        for (int id = 0; id < 10; id++) {
            x.train(id, id < 5 ? 0 : 1);
            x.sync();
        }
        due("18: twenty words, the same", x.compare(0, 1), 0);
        x.untrain(9);
        x.trainText(9, 1, "a b c d e f g h i j k l m n o p q r s s");
        x.type(TWENTY_WORDS);
        due("18: twenty words, one other", x.compare(0, 1), 1);
        due("18: twenty words, one other", x.compare(1, 0), -1);
        x = withText("a a a a a a a a a a a a a a a a a a a a");
        for (int id = 0; id < 10; id++) {
            x.train(id, 0);
            x.sync();
        }
        due("18: 10 * 201^20 / 202^20 against 0", x.compare(0, 1), 1);
        x.untrain(9);
        x.trainText(9, 1, "");
        x.type("a a a a a a a a a a a a a a a a a a a a");
        due("18: 9 * 181^20 / 182^20 against 1 / 2^20", x.compare(0, 1), 1);
        x.type("b b b b b b b b b b b b b b b b b b b b");
        due("18: 9 / 182^20 against 1 / 2^20", x.compare(0, 1), -1);
    }

    public static void main(String[] args) {
        promise1NewObject();
        promise2Key();
        promise3Clear();
        promise4Words();
        promise5Letter();
        promise6Train();
        promise7Untrain();
        promise8Sync();
        promise9Fail();
        promise10Pending();
        promise11Documents();
        promise12Total();
        promise13Count();
        promise14Vocabulary();
        promise15Label();
        promise16Classify();
        promise17Order();
        promise18Compare();
        CHECK.end();
    }
}
