/** The boundary cases of the text: promises 1 to 5, and what "Terms" says of the text and its words. */
public final class TextBoundaryTest {
    private static final int LEAST = Integer.MIN_VALUE;
    private static final int GREATEST = Integer.MAX_VALUE;
    private static final int NONE = -1;
    private static final String FORTY_LETTERS = "abcdefghijklmnopqrstuvwxyz0123456789ABCD";
    private static final String FORTY_MARKS = " !\"#$%&'()*+,-./:;<=>?@[\\]^_`{|}~ !\"#$%&";
    private static final Check CHECK = new Check();

    private static void due(String call, long got, long want) {
        CHECK.due(call, got, want);
    }

    private static void due(String call, boolean got, boolean want) {
        CHECK.due(call, got, want);
    }

    private static Counted withText(String text) {
        Counted x = new Counted(4);
        x.keys(text);
        return x;
    }

    /** Word k of the text, as letter tells it. */
    private static String wordOf(Counted x, int k) {
        StringBuilder word = new StringBuilder();
        for (int i = 0; i < 41 && x.letter(k, i) != NONE; i++) {
            word.append((char) x.letter(k, i));
        }
        return word.toString();
    }

    private static void dueWord(Counted x, int k, String want) {
        CHECK.due("letter, for word " + k + ",", wordOf(x, k), want);
    }

    private static boolean same(String one, String other) {
        Counted x = withText(one);
        x.train(0, 0);
        x.type(other);
        return x.count(0, 0) == 1;
    }

    // Terms

    private static void atFirstTheTextHasNoCharacter() {
        due("words()", new Counted(2).words(), 0);
        due("letter(0, 0)", new Counted(2).letter(0, 0), NONE);
        due("clear()", new Counted(2).clear(), 0);
    }

    private static void theTextHasAtMostFortyCharacters() {
        Counted x = withText(FORTY_LETTERS.substring(0, 39));
        due("key, 39 being there", x.key('D'), true);
        due("key, 40 being there", x.key('E'), false);
        due("key, 40 being there still", x.key(' '), false);
        due("clear()", x.clear(), 40);
    }

    private static void theEndsOfLettersAndDigits() {
        String belong = "azAZ09";
        String part = "/:@[`{ ~";
        for (char c : belong.toCharArray()) {
            due("words of x" + c + "y", withText("x" + c + "y").words(), 1);
        }
        for (char c : part.toCharArray()) {
            due("words of x" + c + "y", withText("x" + c + "y").words(), 2);
        }
    }

    private static void anythingElsePartsRuns() {
        for (char c = 32; c < 127; c++) {
            boolean belongs = FORTY_LETTERS.indexOf(Character.toLowerCase(c)) >= 0;
            Counted x = withText("x" + c + "y");
            due("words of x" + c + "y", x.words(), belongs ? 1 : 2);
            dueWord(x, 0, belongs ? "x" + Character.toLowerCase(c) + "y" : "x");
        }
    }

    private static void eachRunIsAWordInItsOrder() {
        Counted x = withText("b a b");
        due("words of b a b", x.words(), 3);
        dueWord(x, 0, "b");
        dueWord(x, 1, "a");
        dueWord(x, 2, "b");
        Counted twenty = withText(States.TWENTY_WORDS);
        for (int k = 0; k < 20; k++) {
            due("letter(" + k + ", 0)", twenty.letter(k, 0), 'a' + k);
        }
    }

    private static void manyMarksPartAsOne() {
        Counted x = withText("--one, ... two!!");
        due("words of --one, ... two!!", x.words(), 2);
        dueWord(x, 0, "one");
        dueWord(x, 1, "two");
    }

    private static void onlyTheFirstEightOfARunCount() {
        dueWord(withText("abcdefg"), 0, "abcdefg");
        dueWord(withText("abcdefgh"), 0, "abcdefgh");
        dueWord(withText("abcdefghi"), 0, "abcdefgh");
        dueWord(withText(FORTY_LETTERS), 0, "abcdefgh");
        Counted x = withText("abcdefghijklmnopqrs xyz");
        due("words of a run of 19 and one of 3", x.words(), 2);
        dueWord(x, 1, "xyz");
    }

    private static void capitalLettersCountAsSmallOnes() {
        dueWord(withText("AZaz09"), 0, "azaz09");
        due("AZ is az", same("AZ", "az"), true);
        due("aBcDeFgH is AbCdEfGh", same("aBcDeFgH", "AbCdEfGh"), true);
    }

    private static void wordsAreTheSameWhenTheirCharactersAre() {
        due("a is a", same("a", "a"), true);
        due("a is b", same("a", "b"), false);
        due("a is aa", same("a", "aa"), false);
        due("aa is a", same("aa", "a"), false);
        due("ab is ba", same("ab", "ba"), false);
        due("o is 0", same("o", "0"), false);
        due("abcdefg is abcdefgh", same("abcdefg", "abcdefgh"), false);
        due("abcdefgh is abcdefgx", same("abcdefgh", "abcdefgx"), false);
        due("abcdefgh is xbcdefgh", same("abcdefgh", "xbcdefgh"), false);
        due("abcdefgh is abcdefghx", same("abcdefgh", "abcdefghx"), true);
        due("abcdefghx is abcdefghy", same("abcdefghx", "abcdefghy"), true);
    }

    // Promise 1

    private static void dueClasses(int asked, int classes) {
        Counted x = new Counted(asked);
        due("new (" + asked + "): the last class, by total", x.total(classes - 1), 0);
        due("new (" + asked + "): one more, by total", x.total(classes), NONE);
        due("new (" + asked + "): the last place, by order", x.order(classes - 1), classes - 1);
        due("new (" + asked + "): one more, by order", x.order(classes), NONE);
        due("new (" + asked + "): one more, by train", x.train(0, classes), NONE);
        due("new (" + asked + "): the last class, by train", x.train(0, classes - 1), 1);
    }

    private static void classesInRangeAreTaken() {
        dueClasses(2, 2);
        dueClasses(3, 3);
        dueClasses(4, 4);
    }

    private static void classesAreAtLeastTwo() {
        dueClasses(1, 2);
        dueClasses(0, 2);
        dueClasses(-1, 2);
        dueClasses(-4, 2);
        dueClasses(LEAST, 2);
    }

    private static void classesAreAtMostFour() {
        dueClasses(5, 4);
        dueClasses(6, 4);
        dueClasses(256, 4);
        dueClasses(GREATEST, 4);
    }

    private static void aNewObjectHasNoDocument() {
        Counted x = new Counted(4);
        due("documents(-1)", x.documents(-1), 0);
        for (int id = 0; id < 32; id++) {
            due("label(" + id + ")", x.label(id), NONE);
        }
        due("fail(24)", x.fail(24), 0);
        due("documents(-1) after a failure", x.documents(-1), 0);
    }

    private static void aNewObjectHasNoBlock() {
        due("pending()", new Counted(2).pending(), 0);
        due("sync()", new Counted(2).sync(), 0);
    }

    private static void objectsDoNotShareAnything() {
        Counted x = withText("tea");
        x.train(0, 1);
        Counted y = new Counted(4);
        due("words() of another object", y.words(), 0);
        due("label(0) of another object", y.label(0), NONE);
        due("pending() of another object", y.pending(), 0);
        due("vocabulary() of another object", y.vocabulary(), 0);
    }

    // Promise 2

    private static void keyTakesCodesInRange() {
        for (char c = 32; c <= 126; c++) {
            Counted x = new Counted(2);
            due("key of code " + (int) c, x.key(c), true);
            due("clear() after code " + (int) c, x.clear(), 1);
        }
    }

    private static void keyRefusesCodesOutOfRange() {
        for (int code = 0; code <= Character.MAX_VALUE; code++) {
            if (code < 32 || code > 126) {
                Counted x = new Counted(2);
                due("key of code " + code, x.key((char) code), false);
                due("clear() after code " + code, x.clear(), 0);
            }
        }
    }

    private static void keyRefusesWhenTheTextHasForty() {
        Counted x = withText(FORTY_MARKS);
        due("key of a letter", x.key('a'), false);
        due("words()", x.words(), 0);
        due("clear()", x.clear(), 40);
        due("key after clear()", x.key('a'), true);
    }

    private static void keyRefusesBothAtOnce() {
        Counted x = withText(FORTY_LETTERS);
        due("key of code 31", x.key((char) 31), false);
        due("key of code 65535", x.key((char) 65535), false);
        due("clear()", x.clear(), 40);
    }

    private static void aRefusedKeyPartsNoRun() {
        Counted x = withText("ab");
        x.key((char) 31);
        x.key((char) 127);
        x.key((char) 0);
        x.key((char) 65535);
        x.key('c');
        due("words()", x.words(), 1);
        dueWord(x, 0, "abc");
    }

    private static void aRefusedKeyLengthensNoWord() {
        Counted x = withText(FORTY_MARKS.substring(0, 37) + "abc");
        x.key('d');
        dueWord(x, 0, "abc");
        due("clear()", x.clear(), 40);
    }

    // Promise 3

    private static void clearOfNothing() {
        Counted x = new Counted(2);
        due("clear()", x.clear(), 0);
        due("clear() again", x.clear(), 0);
    }

    private static void clearOfOne() {
        due("clear() of a letter", withText("a").clear(), 1);
        due("clear() of a space", withText(" ").clear(), 1);
    }

    private static void clearOfForty() {
        Counted x = withText(FORTY_LETTERS);
        due("clear()", x.clear(), 40);
        due("clear() again", x.clear(), 0);
    }

    private static void theTextIsEmptyAfterClear() {
        Counted x = withText(States.TWENTY_WORDS);
        x.clear();
        due("words()", x.words(), 0);
        due("letter(0, 0)", x.letter(0, 0), NONE);
        due("count(0, 0)", x.count(0, 0), NONE);
        due("train(0, 0), a block without words", x.train(0, 0), 1);
    }

    private static void aRunBeforeClearIsNotGoneOnWith() {
        Counted x = withText("abcdefghi");
        x.type("xy");
        due("words()", x.words(), 1);
        dueWord(x, 0, "xy");
    }

    private static void fortyFitAgainAfterClear() {
        Counted x = withText(FORTY_LETTERS);
        x.clear();
        for (int i = 0; i < 40; i++) {
            due("key " + i, x.key(i % 2 == 0 ? 'q' : '.'), true);
        }
        due("key 40", x.key('q'), false);
        due("words()", x.words(), 20);
    }

    // Promise 4

    private static void noWordsInNoText() {
        due("words()", withText("").words(), 0);
    }

    private static void noWordsInMarksAlone() {
        due("words of a space", withText(" ").words(), 0);
        due("words of forty marks", withText(FORTY_MARKS).words(), 0);
    }

    private static void oneWord() {
        due("words of a", withText("a").words(), 1);
        due("words of Z between spaces", withText(" Z ").words(), 1);
        due("words of a run of forty", withText(FORTY_LETTERS).words(), 1);
    }

    private static void twentyWords() {
        due("words, a letter first", withText(States.TWENTY_WORDS + " ").words(), 20);
        due("words, a space first", withText(" " + States.TWENTY_WORDS).words(), 20);
        due("words, one run of two", withText("aa b c d e f g h i j k l m n o p q r s t").words(), 20);
    }

    // Promise 5

    private static void noSuchWordInNoText() {
        due("letter(0, 0)", withText("").letter(0, 0), NONE);
        due("letter(0, 0) of marks", withText(FORTY_MARKS).letter(0, 0), NONE);
    }

    private static void noSuchWord() {
        Counted x = withText("one two");
        int[] wrong = {-1, -2, 2, 3, 20, 40, LEAST, GREATEST};
        for (int k : wrong) {
            due("letter(" + k + ", 0)", x.letter(k, 0), NONE);
        }
        Counted full = withText(States.TWENTY_WORDS);
        due("letter(19, 0) of twenty words", full.letter(19, 0), 't');
        due("letter(20, 0) of twenty words", full.letter(20, 0), NONE);
    }

    private static void noSuchCharacter() {
        String[] texts = {"a", "ab", "abcdefg", "abcdefgh", "abcdefghi", FORTY_LETTERS};
        int[] lengths = {1, 2, 7, 8, 8, 8};
        int[] wrong = {-1, -2, -8, 9, 16, 32, 64, LEAST, GREATEST};
        for (int t = 0; t < texts.length; t++) {
            Counted x = withText(texts[t]);
            int last = lengths[t] - 1;
            due("letter(0, " + last + ") of " + texts[t], x.letter(0, last), 'a' + last);
            due("letter(0, " + (last + 1) + ") of " + texts[t], x.letter(0, last + 1), NONE);
            for (int i : wrong) {
                due("letter(0, " + i + ") of " + texts[t], x.letter(0, i), NONE);
            }
        }
    }

    private static void noSuchCharacterBeforeAnotherWord() {
        Counted x = withText("ab cd");
        due("letter(0, 2)", x.letter(0, 2), NONE);
        due("letter(0, 3)", x.letter(0, 3), NONE);
        due("letter(1, -1)", x.letter(1, -1), NONE);
    }

    private static void neitherWordNorCharacter() {
        Counted x = withText("ab");
        int[] wrong = {-1, 2, 8, LEAST, GREATEST};
        for (int k : wrong) {
            for (int i : wrong) {
                due("letter(" + k + ", " + i + ")", x.letter(k, i), NONE);
            }
        }
    }

    private static void capitalLettersAsSmallOnes() {
        for (char c = 'A'; c <= 'Z'; c++) {
            due("letter(0, 0) of " + c, withText("" + c).letter(0, 0), c - 'A' + 'a');
        }
        for (char c : "az09".toCharArray()) {
            due("letter(0, 0) of " + c, withText("" + c).letter(0, 0), c);
        }
    }

    private static void test(String name, Runnable body) {
        CHECK.test(name, body);
    }

    private static void terms() {
        test("Terms, THE TEXT: at first none", TextBoundaryTest::atFirstTheTextHasNoCharacter);
        test("Terms, THE TEXT: at most 40 characters", TextBoundaryTest::theTextHasAtMostFortyCharacters);
        test("Terms, WORDS: letters a .. z, A .. Z and digits", TextBoundaryTest::theEndsOfLettersAndDigits);
        test("Terms, WORDS: runs, which anything else parts", TextBoundaryTest::anythingElsePartsRuns);
        test("Terms, WORDS: each run is a word, in the order", TextBoundaryTest::eachRunIsAWordInItsOrder);
        test("Terms, WORDS: there is no empty word", TextBoundaryTest::manyMarksPartAsOne);
        test("Terms, WORDS: only the first 8 characters count", TextBoundaryTest::onlyTheFirstEightOfARunCount);
        test("Terms, WORDS: capital letters count as small", TextBoundaryTest::capitalLettersCountAsSmallOnes);
        test("Terms, WORDS: the same when their characters are",
                TextBoundaryTest::wordsAreTheSameWhenTheirCharactersAre);
    }

    private static void promises1And2() {
        test("Promise 1: C is classes", TextBoundaryTest::classesInRangeAreTaken);
        test("Promise 1: at least 2", TextBoundaryTest::classesAreAtLeastTwo);
        test("Promise 1: at most 4", TextBoundaryTest::classesAreAtMostFour);
        test("Promise 1: no document", TextBoundaryTest::aNewObjectHasNoDocument);
        test("Promise 1: no block", TextBoundaryTest::aNewObjectHasNoBlock);
        test("Promise 1: nor after another object was used", TextBoundaryTest::objectsDoNotShareAnything);
        test("Promise 2: true for 32 .. 126", TextBoundaryTest::keyTakesCodesInRange);
        test("Promise 2: false when its code is not 32 .. 126", TextBoundaryTest::keyRefusesCodesOutOfRange);
        test("Promise 2: false when the text has 40", TextBoundaryTest::keyRefusesWhenTheTextHasForty);
        test("Promise 2: false for both at once", TextBoundaryTest::keyRefusesBothAtOnce);
        test("Promise 2: a refused code changes nothing", TextBoundaryTest::aRefusedKeyPartsNoRun);
        test("Promise 2: a key refused at 40 changes nothing", TextBoundaryTest::aRefusedKeyLengthensNoWord);
    }

    private static void promises3To5() {
        test("Promise 3: of an empty text", TextBoundaryTest::clearOfNothing);
        test("Promise 3: of one character", TextBoundaryTest::clearOfOne);
        test("Promise 3: of a full text", TextBoundaryTest::clearOfForty);
        test("Promise 3: the text is empty", TextBoundaryTest::theTextIsEmptyAfterClear);
        test("Promise 3: a new run begins", TextBoundaryTest::aRunBeforeClearIsNotGoneOnWith);
        test("Promise 3: 40 fit again", TextBoundaryTest::fortyFitAgainAfterClear);
        test("Promise 4: none in an empty text", TextBoundaryTest::noWordsInNoText);
        test("Promise 4: none in marks alone", TextBoundaryTest::noWordsInMarksAlone);
        test("Promise 4: one", TextBoundaryTest::oneWord);
        test("Promise 4: twenty, the most", TextBoundaryTest::twentyWords);
        test("Promise 5: NONE in an empty text", TextBoundaryTest::noSuchWordInNoText);
        test("Promise 5: NONE when there is no such word", TextBoundaryTest::noSuchWord);
        test("Promise 5: NONE when it has no such character", TextBoundaryTest::noSuchCharacter);
        test("Promise 5: NONE behind a word's end", TextBoundaryTest::noSuchCharacterBeforeAnotherWord);
        test("Promise 5: NONE for both at once", TextBoundaryTest::neitherWordNorCharacter);
        test("Promise 5: capital letters as small ones", TextBoundaryTest::capitalLettersAsSmallOnes);
    }

    public static void main(String[] args) {
        terms();
        promises1And2();
        promises3To5();
        CHECK.end();
    }
}
