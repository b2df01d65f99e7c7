/** The boundary cases of what is counted and compared: promises 11 to 18, and what "Terms" says of it. */
public final class EvidenceBoundaryTest {
    private static final int LEAST = Integer.MIN_VALUE;
    private static final int GREATEST = Integer.MAX_VALUE;
    private static final int NONE = -1;
    private static final int NO_CLASS = -2;
    private static final String TWENTY_TIMES_A = "a a a a a a a a a a a a a a a a a a a a";
    private static final Check CHECK = new Check();

    private static void due(String call, long got, long want) {
        CHECK.due(call, got, want);
    }

    /** Neither a class, nor a place in order, of so many classes. */
    private static int[] noClasses(int classes) {
        return new int[] {-1, -2, -3, classes, classes + 1, 5, 32, 256, LEAST, GREATEST};
    }

    /** One document for each of the texts, of the classes 0, 1, .. */
    private static Counted withClasses(String... texts) {
        Counted x = new Counted(texts.length);
        for (int c = 0; c < texts.length; c++) {
            x.trainText(c, c, texts[c]);
            x.sync();
        }
        return x;
    }

    private static void dueOrder(String when, Counted x, int... classes) {
        for (int k = 0; k < classes.length; k++) {
            due(when + ": order(" + k + ")", x.order(k), classes[k]);
        }
    }

    /** Both ways, and each class with itself. */
    private static void dueCompare(String when, Counted x, int sign) {
        due(when + ": compare(0, 1)", x.compare(0, 1), sign);
        due(when + ": compare(1, 0)", x.compare(1, 0), -sign);
        due(when + ": compare(0, 0)", x.compare(0, 0), 0);
        due(when + ": compare(1, 1)", x.compare(1, 1), 0);
    }

    // Terms: what is counted

    private static void anUntrainedDocumentDoesNotCount() {
        Counted x = withClasses("a b", "a c c");
        x.untrain(1);
        x.type("a c");
        due("documents(1)", x.documents(1), 0);
        due("total(1)", x.total(1), 0);
        due("count(1, 0)", x.count(1, 0), 0);
        due("count(1, 1)", x.count(1, 1), 0);
        due("vocabulary()", x.vocabulary(), 2);
        due("compare(1, 0)", x.compare(1, 0), -1);
    }

    private static void aLostDocumentDoesNotCount() {
        Counted x = withClasses("a b", "a");
        x.trainText(2, 1, "c c");
        x.type("a c");
        due("count(1, 1) before", x.count(1, 1), 2);
        x.fail(1);
        due("documents(1)", x.documents(1), 1);
        due("total(1)", x.total(1), 1);
        due("count(1, 1)", x.count(1, 1), 0);
        due("vocabulary()", x.vocabulary(), 2);
    }

    private static void aDocumentThatIsBackCounts() {
        Counted x = withClasses("a b", "a c c");
        x.untrain(1);
        x.fail(0);
        x.type("c");
        due("documents(1)", x.documents(1), 1);
        due("total(1)", x.total(1), 3);
        due("count(1, 0)", x.count(1, 0), 2);
        due("vocabulary()", x.vocabulary(), 3);
    }

    // Terms: the chance

    private static void withoutWordsTheChanceIsD() {
        Counted x = withClasses("a", "b c d");
        x.trainText(2, 1, "");
        dueCompare("one document against two, no text", x, -1);
        x.type(" .!");
        dueCompare("one document against two, marks", x, -1);
        x.train(3, 0);
        dueCompare("two against two, marks", x, 0);
    }

    private static void withoutDocumentsOfTheClassTheChanceIsZero() {
        Counted x = new Counted(3);
        x.trainText(0, 1, TWENTY_TIMES_A);
        x.type("b b b b b b b b b b b b b b b b b b b b");
        dueCompare("no document against one", x, -1);
        due("compare(0, 2)", x.compare(0, 2), 0);
        due("compare(2, 0)", x.compare(2, 0), 0);
        dueOrder("no document against one", x, 1, 0, 2);
    }

    private static void aWordThatNoDocumentHasIsAFactorToo() {
        Counted x = withClasses("a", "a b c");
        x.type("z");
        dueCompare("1/5 against 1/7", x, 1);
        x.type("a z");
        dueCompare("2/5 * 1/5 against 2/7 * 1/7", x, 1);
    }

    private static void eachTimeAWordStandsThereIsAFactor() {
        Counted x = withClasses("a a", "a b b b b");
        x.type("b");
        dueCompare("1/5 against 5/8", x, -1);
        x.type("b a");
        dueCompare("1/5 * 3/5 against 5/8 * 2/8", x, -1);
        x.type("b a a");
        dueCompare("1/5 * 3/5 * 3/5 against 5/8 * 2/8 * 2/8", x, 1);
    }

    private static void theOneOfTheDenominatorCounts() {
        Counted x = withClasses("", "a");
        x.trainText(2, 1, "a");
        x.type("z");
        dueCompare("1 * 1/2 against 2 * 1/4", x, 0);
    }

    private static void theVocabularyOfAllClassesCounts() {
        Counted x = withClasses("a", "b c");
        x.trainText(2, 1, "");
        x.type("z z z z");
        dueCompare("1/5^4 against 2 * 1/6^4", x, 1);
        x.type("z z z");
        dueCompare("1/5^3 against 2 * 1/6^3", x, -1);
    }

    /** Rounded factors of other orders give other products here. */
    private static void equalChancesOfOtherFactorsAreEqual() {
        Counted x = withClasses("b b c a d e d g e f e g b c a", "d e e d e c a f b a a e f d e");
        x.type("c g d e e e");
        dueCompare("six words", x, 0);
        x = withClasses("f g a d c f a b c d e", "e c b d a e b f a d g");
        x.type("d b f a e c d g e a d f g f g d a e g");
        dueCompare("nineteen words", x, 0);
        dueOrder("nineteen words", x, 0, 1);
    }

    private static void nearlyEqualChancesAreNotEqual() {
        Counted x = withClasses("a a b b b b c c d d d e f f", "a a a a a a b b b c c c c d d e e f");
        x.type("b d e e e e e e e e e z z z z z z z");
        dueCompare("greater by less than a millionth", x, 1);
        x = new Counted(2);
        trainLetters(x, 0, 0, "aaaaaaaaaaaaaaaaaddddefffffffgghhhhhhhhhhhhhhhhiiiiiiijjjjjjjlmmmmrrr");
        trainLetters(x, 4, 1, "abbcccccccccccdeeeeeeeeeeeeffffgggggghijkkkkkkkknooo");
        x.type("a f f f f g g g g h n");
        dueCompare("less by less than a ten thousand millionth", x, -1);
    }

    /** 3.6 parts in 10^17: two doubles that stand next to each other just below 1 are further apart. */
    private static void noNearnessCountsAsEqual() {
        String ofClass0 = "a".repeat(30) + "b".repeat(40) + "f".repeat(10) + "g".repeat(18) + "hi";
        String ofClass1 = "a".repeat(28) + "c".repeat(6) + "d".repeat(16) + "f".repeat(9) + "g".repeat(12)
                + "j".repeat(12) + "klmnopqrs";
        for (int turned = 0; turned < 2; turned++) {
            Counted x = new Counted(2);
            trainLetters(x, 0, 0, turned == 0 ? ofClass0 : ofClass1);
            trainLetters(x, 5, 1, turned == 0 ? ofClass1 : ofClass0);
            x.type("a a a a a a b b b b c c c d d d z z f g");
            int greater = turned == 0 ? 1 : 0;
            dueCompare("31^6 * 41^4 * 11 * 19 / 119^20 against 29^6 * 7^3 * 17^3 * 10 * 13 / 111^20", x,
                    turned == 0 ? -1 : 1);
            dueOrder("the greater one first", x, greater, 1 - greater);
            due("classify()", x.classify(), greater);
        }
    }

    /** The letters are words, twenty of them a document, and the rest the last one. */
    private static void trainLetters(Counted x, int firstId, int label, String letters) {
        int id = firstId;
        for (int from = 0; from < letters.length(); from += 20) {
            String words = letters.substring(from, Math.min(from + 20, letters.length()));
            x.trainText(id, label, String.join(" ", words.split("")));
            x.sync();
            id++;
        }
    }

    /** The products that are compared here have up to 270 bits, and those of both classes nearly as many. */
    private static void theGreatestProductsAreExact() {
        String lastDocument = "a ".repeat(19) + "b";
        for (int many = 0; many <= 20; many++) {
            Counted x = new Counted(2);
            x.keys(TWENTY_TIMES_A);
            for (int id = 0; id < 9; id++) {
                x.train(id, id < 5 ? 0 : 1);
                x.sync();
            }
            x.trainText(9, 1, lastDocument);
            x.type("a ".repeat(many) + "b ".repeat(20 - many));
            String chances = "101^" + many + " against 100^" + many + " * 2^" + (20 - many);
            dueCompare(chances + ", both times 5 / 103^20", x, many == 20 ? 1 : -1);
        }
    }

    private static void eachOfTwentyWordsIsAFactor() {
        for (int place = 0; place < 20; place++) {
            Counted x = withClasses("a", "b");
            x.type("z ".repeat(place) + "a " + "z ".repeat(19 - place));
            due("words()", x.words(), 20);
            dueCompare("word " + place + " alone decides", x, 1);
        }
    }

    /** The words tie, so that the documents alone decide. */
    private static void twentyWordsThatTieAreEqual() {
        Counted x = new Counted(2);
        x.keys(States.TWENTY_WORDS);
        for (int id = 0; id < 8; id++) {
            x.train(id, id % 2);
            x.sync();
        }
        dueCompare("4 * (5/101)^20 twice", x, 0);
        x.trainText(8, 1, "");
        x.type(States.TWENTY_WORDS);
        dueCompare("4 against 5 times the same", x, -1);
    }

    // Terms: order

    private static void ofEqualOnesTheLesserNumberIsFirst() {
        Counted x = withClasses("a", "a", "a", "a");
        x.type("a");
        dueOrder("four equal ones", x, 0, 1, 2, 3);
        due("four equal ones: classify()", x.classify(), 0);
        x.trainText(4, 2, "a");
        x.trainText(5, 3, "a");
        x.type("");
        dueOrder("two pairs", x, 2, 3, 0, 1);
        due("two pairs: classify()", x.classify(), 2);
        x.train(6, 3);
        dueOrder("one pair", x, 3, 2, 0, 1);
        x.untrain(0);
        dueOrder("none equal", x, 3, 2, 1, 0);
    }

    // Promise 11

    private static void documentsNone() {
        for (int classes = 2; classes <= 4; classes++) {
            Counted x = new Counted(classes);
            x.train(0, 0);
            for (int c : noClasses(classes)) {
                if (c != -1) {
                    due("documents(" + c + "), C being " + classes, x.documents(c), NONE);
                }
            }
            due("documents(C - 1), C being " + classes, x.documents(classes - 1), 0);
        }
    }

    private static void documentsOfAll() {
        Counted x = new Counted(4);
        due("documents(-1), none being there", x.documents(-1), 0);
        for (int id = 0; id < 10; id++) {
            x.train(id, id % 4);
            due("documents(-1)", x.documents(-1), id + 1);
        }
        due("documents(0)", x.documents(0), 3);
        due("documents(3)", x.documents(3), 2);
    }

    private static void documentsOfAClass() {
        Counted x = new Counted(2);
        due("documents(0), none being there", x.documents(0), 0);
        for (int id = 22; id < 32; id++) {
            x.train(id, 0);
        }
        due("documents(0), ten being there", x.documents(0), 10);
        due("documents(1), ten of the other", x.documents(1), 0);
    }

    // Promise 12

    private static void totalNone() {
        for (int classes = 2; classes <= 4; classes++) {
            Counted x = new Counted(classes);
            x.trainText(0, 0, "a");
            for (int c : noClasses(classes)) {
                due("total(" + c + "), C being " + classes, x.total(c), NONE);
            }
            due("total(C - 1), C being " + classes, x.total(classes - 1), 0);
        }
    }

    private static void totalOfNoWords() {
        Counted x = new Counted(2);
        due("total(0) without documents", x.total(0), 0);
        x.train(0, 0);
        due("total(0) of a document without words", x.total(0), 0);
    }

    private static void totalOfTheMostWords() {
        Counted x = new Counted(2);
        x.keys(States.TWENTY_WORDS);
        for (int id = 0; id < 10; id++) {
            x.train(id, 1);
            x.sync();
        }
        due("total(1)", x.total(1), 200);
        due("total(0)", x.total(0), 0);
    }

    // Promise 13

    private static void countNoneForAClass() {
        for (int classes = 2; classes <= 4; classes++) {
            Counted x = new Counted(classes);
            x.trainText(0, 0, "a");
            for (int c : noClasses(classes)) {
                due("count(" + c + ", 0), C being " + classes, x.count(c, 0), NONE);
            }
            due("count(C - 1, 0), C being " + classes, x.count(classes - 1, 0), 0);
        }
    }

    private static void countNoneForAWord() {
        Counted x = new Counted(2);
        x.trainText(0, 0, "a b");
        int[] wrong = {-1, -2, 2, 3, 20, 40, LEAST, GREATEST};
        for (int k : wrong) {
            due("count(0, " + k + ")", x.count(0, k), NONE);
        }
        due("count(0, 1)", x.count(0, 1), 1);
        x.type(States.TWENTY_WORDS);
        due("count(0, 19) of twenty words", x.count(0, 19), 0);
        due("count(0, 20) of twenty words", x.count(0, 20), NONE);
    }

    private static void countNoneForNoText() {
        Counted x = new Counted(2);
        x.trainText(0, 0, "a b");
        x.clear();
        due("count(0, 0)", x.count(0, 0), NONE);
        x.keys(" !");
        due("count(0, 0) of marks", x.count(0, 0), NONE);
    }

    private static void countNoneForBoth() {
        Counted x = new Counted(2);
        x.trainText(0, 0, "a");
        due("count(-1, -1)", x.count(-1, -1), NONE);
        due("count(2, 1)", x.count(2, 1), NONE);
        due("count(least, greatest)", x.count(LEAST, GREATEST), NONE);
    }

    private static void countOfTheMost() {
        Counted x = new Counted(2);
        x.keys(TWENTY_TIMES_A);
        due("count(1, 0) without documents", x.count(1, 0), 0);
        for (int id = 0; id < 10; id++) {
            x.train(id, 1);
            x.sync();
        }
        due("count(1, 0)", x.count(1, 0), 200);
        due("count(1, 19)", x.count(1, 19), 200);
        due("count(0, 0)", x.count(0, 0), 0);
    }

    // Promise 14

    private static void vocabularyWithoutDocuments() {
        Counted x = new Counted(2);
        x.keys("a b");
        due("vocabulary()", x.vocabulary(), 0);
        x.train(0, 0);
        x.untrain(0);
        due("vocabulary() after an untraining", x.vocabulary(), 0);
        x.train(0, 0);
        x.fail(0);
        due("vocabulary() after a failure", x.vocabulary(), 0);
    }

    private static void vocabularyOfDocumentsWithoutWords() {
        Counted x = new Counted(2);
        x.train(0, 0);
        x.trainText(1, 1, "!!");
        due("vocabulary()", x.vocabulary(), 0);
    }

    private static void vocabularyCountsEachWordOnce() {
        Counted x = withClasses("a A a", "a", "a abcdefghi abcdefghj");
        due("vocabulary()", x.vocabulary(), 2);
        x.untrain(2);
        due("vocabulary(), a word still in another", x.vocabulary(), 1);
    }

    private static void vocabularyOfManyWords() {
        Counted x = new Counted(4);
        x.trainText(0, 0, "a b c d e f g h i j k l m n o p q r s t");
        x.trainText(1, 1, "u v w x y z 0 1 2 3 4 5 6 7 8 9");
        due("vocabulary() of the words of one character", x.vocabulary(), 36);
        for (int id = 2; id < 10; id++) {
            StringBuilder text = new StringBuilder();
            for (char c = 'a'; c < 'n'; c++) {
                text.append(c).append(id).append(' ');
            }
            x.trainText(id, id % 4, text.toString());
            x.sync();
        }
        due("vocabulary() of ten documents", x.vocabulary(), 36 + 8 * 13);
    }

    // Promise 15

    private static void labelNone() {
        Counted x = new Counted(4);
        int[] wrong = {-1, -2, -32, 32, 33, 63, 64, 256, LEAST, GREATEST};
        for (int round = 0; round < 2; round++) {
            for (int id : wrong) {
                due("label(" + id + ")", x.label(id), NONE);
            }
            x.train(0, 3);
            x.train(31, 3);
        }
        due("label(1)", x.label(1), NONE);
        due("label(30)", x.label(30), NONE);
    }

    private static void labelNoneWhenNotInForce() {
        Counted x = new Counted(2);
        x.train(0, 1);
        x.sync();
        x.untrain(0);
        due("label(0) after an untraining", x.label(0), NONE);
        x.train(1, 1);
        x.fail(0);
        due("label(1), a lost one", x.label(1), NONE);
        due("label(0), which is back", x.label(0), 1);
    }

    private static void labelOfTheLeastAndTheGreatest() {
        Counted x = new Counted(4);
        x.train(0, 3);
        x.train(31, 0);
        due("label(0)", x.label(0), 3);
        due("label(31)", x.label(31), 0);
    }

    // Promise 16

    private static void classifyNone() {
        Counted x = new Counted(2);
        due("classify() at first", x.classify(), NONE);
        x.keys("tea");
        due("classify() of a text", x.classify(), NONE);
        x.train(0, 1);
        x.untrain(0);
        due("classify(), the only one untrained", x.classify(), NONE);
        x.sync();
        x.train(0, 1);
        x.fail(1);
        due("classify(), the only one lost", x.classify(), NONE);
    }

    private static void classifyWithOneDocument() {
        for (int c = 0; c < 4; c++) {
            Counted x = new Counted(4);
            x.train(31, c);
            due("classify() of no text", x.classify(), c);
            x.keys("unknown");
            due("classify() of an unknown word", x.classify(), c);
        }
    }

    // Promise 17

    private static void orderNone() {
        for (int classes = 2; classes <= 4; classes++) {
            Counted x = new Counted(classes);
            for (int round = 0; round < 2; round++) {
                for (int k : noClasses(classes)) {
                    due("order(" + k + "), C being " + classes, x.order(k), NONE);
                }
                x.trainText(0, 0, "a");
            }
        }
    }

    private static void orderWithoutDocuments() {
        for (int classes = 2; classes <= 4; classes++) {
            Counted x = new Counted(classes);
            for (int k = 0; k < classes; k++) {
                due("order(" + k + ") at first", x.order(k), k);
            }
            x.trainText(0, 1, "a b");
            x.untrain(0);
            for (int k = 0; k < classes; k++) {
                due("order(" + k + "), the only one untrained", x.order(k), k);
            }
        }
    }

    private static void orderTurnedRound() {
        Counted x = withClasses("a", "a a", "a a a", "a a a a a");
        x.type("a");
        dueOrder("2/3, 3/4, 4/5, 6/7 by the word it has", x, 3, 2, 1, 0);
        x.type("b");
        dueOrder("1/3, 1/4, 1/5, 1/7 by one it has not", x, 0, 1, 2, 3);
    }

    // Promise 18

    private static void compareNoClass() {
        for (int classes = 2; classes <= 4; classes++) {
            Counted x = new Counted(classes);
            for (int c : noClasses(classes)) {
                String at = ", C being " + classes;
                due("compare(0, " + c + ")" + at, x.compare(0, c), NO_CLASS);
                due("compare(" + c + ", 0)" + at, x.compare(c, 0), NO_CLASS);
                due("compare(" + c + ", " + c + ")" + at, x.compare(c, c), NO_CLASS);
                due("compare(C - 1, " + c + ")" + at, x.compare(classes - 1, c), NO_CLASS);
            }
            due("compare(0, C - 1), C being " + classes, x.compare(0, classes - 1), 0);
        }
        due("compare(least, greatest)", new Counted(2).compare(LEAST, GREATEST), NO_CLASS);
    }

    private static void compareWithoutDocuments() {
        Counted x = new Counted(2);
        dueCompare("no text", x, 0);
        x.keys("tea");
        dueCompare("a text", x, 0);
        x.train(0, 1);
        dueCompare("one document", x, -1);
        x.fail(0);
        dueCompare("the only one lost", x, 0);
    }

    private static void compareThreeWays() {
        Counted x = withClasses("a", "b");
        x.type("a");
        dueCompare("greater", x, 1);
        x.type("b");
        dueCompare("less", x, -1);
        x.type("a b");
        dueCompare("equal", x, 0);
    }

    private static void test(String name, Runnable body) {
        CHECK.test(name, body);
    }

    private static void terms() {
        test("Terms, IN FORCE: not when untrained", EvidenceBoundaryTest::anUntrainedDocumentDoesNotCount);
        test("Terms, IN FORCE: not when lost", EvidenceBoundaryTest::aLostDocumentDoesNotCount);
        test("Terms, IN FORCE: again when its untraining is lost", EvidenceBoundaryTest::aDocumentThatIsBackCounts);
        test("Terms, CHANCE: D(c) for a text without words", EvidenceBoundaryTest::withoutWordsTheChanceIsD);
        test("Terms, CHANCE: 0 for a class without documents",
                EvidenceBoundaryTest::withoutDocumentsOfTheClassTheChanceIsZero);
        test("Terms, CHANCE: n(c, w) is 0", EvidenceBoundaryTest::aWordThatNoDocumentHasIsAFactorToo);
        test("Terms, CHANCE: each time it stands there", EvidenceBoundaryTest::eachTimeAWordStandsThereIsAFactor);
        test("Terms, CHANCE: N(c) + V + 1, N(c) being 0", EvidenceBoundaryTest::theOneOfTheDenominatorCounts);
        test("Terms, CHANCE: V of all documents in force", EvidenceBoundaryTest::theVocabularyOfAllClassesCounts);
        test("Terms, CHANCE: an exact fraction, equal ones", EvidenceBoundaryTest::equalChancesOfOtherFactorsAreEqual);
        test("Terms, CHANCE: an exact fraction, near ones", EvidenceBoundaryTest::nearlyEqualChancesAreNotEqual);
        test("Terms, CHANCE: an exact fraction, no nearness", EvidenceBoundaryTest::noNearnessCountsAsEqual);
        test("Terms, CHANCE: an exact fraction, the greatest", EvidenceBoundaryTest::theGreatestProductsAreExact);
        test("Terms, CHANCE: for each word of the text, of twenty", EvidenceBoundaryTest::eachOfTwentyWordsIsAFactor);
        test("Terms, CHANCE: an exact fraction, twenty words", EvidenceBoundaryTest::twentyWordsThatTieAreEqual);
        test("Terms, ORDER: of equal ones the one with the lesser number first",
                EvidenceBoundaryTest::ofEqualOnesTheLesserNumberIsFirst);
    }

    private static void promises11To14() {
        test("Promise 11: NONE for c that is neither that nor -1", EvidenceBoundaryTest::documentsNone);
        test("Promise 11: -1, which means all", EvidenceBoundaryTest::documentsOfAll);
        test("Promise 11: D(c), none and ten", EvidenceBoundaryTest::documentsOfAClass);
        test("Promise 12: NONE when there is no such class", EvidenceBoundaryTest::totalNone);
        test("Promise 12: no words", EvidenceBoundaryTest::totalOfNoWords);
        test("Promise 12: the most words", EvidenceBoundaryTest::totalOfTheMostWords);
        test("Promise 13: NONE when there is no such class", EvidenceBoundaryTest::countNoneForAClass);
        test("Promise 13: NONE when there is no such word", EvidenceBoundaryTest::countNoneForAWord);
        test("Promise 13: NONE when the text has no word", EvidenceBoundaryTest::countNoneForNoText);
        test("Promise 13: NONE for both at once", EvidenceBoundaryTest::countNoneForBoth);
        test("Promise 13: none and the most", EvidenceBoundaryTest::countOfTheMost);
        test("Promise 14: no document in force", EvidenceBoundaryTest::vocabularyWithoutDocuments);
        test("Promise 14: documents that have no word", EvidenceBoundaryTest::vocabularyOfDocumentsWithoutWords);
        test("Promise 14: different words", EvidenceBoundaryTest::vocabularyCountsEachWordOnce);
        test("Promise 14: many words", EvidenceBoundaryTest::vocabularyOfManyWords);
    }

    private static void promises15To18() {
        test("Promise 15: NONE when there is none", EvidenceBoundaryTest::labelNone);
        test("Promise 15: NONE when there is none in force", EvidenceBoundaryTest::labelNoneWhenNotInForce);
        test("Promise 15: the least and the greatest id", EvidenceBoundaryTest::labelOfTheLeastAndTheGreatest);
        test("Promise 16: NONE when no document is in force", EvidenceBoundaryTest::classifyNone);
        test("Promise 16: one document in force", EvidenceBoundaryTest::classifyWithOneDocument);
        test("Promise 17: NONE when k is not 0 .. C - 1", EvidenceBoundaryTest::orderNone);
        test("Promise 17: no document in force", EvidenceBoundaryTest::orderWithoutDocuments);
        test("Promise 17: the first is the last", EvidenceBoundaryTest::orderTurnedRound);
        test("Promise 18: -2 when one is no class", EvidenceBoundaryTest::compareNoClass);
        test("Promise 18: no document in force", EvidenceBoundaryTest::compareWithoutDocuments);
        test("Promise 18: greater, less and equal", EvidenceBoundaryTest::compareThreeWays);
    }

    public static void main(String[] args) {
        terms();
        promises11To14();
        promises15To18();
        CHECK.end();
    }
}
