import java.util.function.Consumer;
import java.util.function.Supplier;

/** The boundary cases of the documents: promises 6 and 7, and what "Terms" says of them and of refused calls. */
public final class DocumentBoundaryTest {
    private static final int LEAST = Integer.MIN_VALUE;
    private static final int GREATEST = Integer.MAX_VALUE;
    private static final int NONE = -1;
    private static final int PRESENT = -2;
    private static final int ABSENT = -3;
    private static final int MANY = -4;
    private static final int FULL = -5;
    private static final int[] NO_IDS = {-1, -2, -32, 32, 33, 63, 64, 256, LEAST, GREATEST};
    private static final Check CHECK = new Check();

    private static void due(String call, long got, long want) {
        CHECK.due(call, got, want);
    }

    private static void due(String call, String got, String want) {
        CHECK.due(call, got, want);
    }

    // Terms: documents

    private static void documentsAreAtMostTen() {
        Counted x = States.withDocuments(9);
        due("the tenth", x.train(9, 0), 1);
        due("the eleventh", x.train(10, 0), MANY);
        due("documents(-1)", x.documents(-1), 10);
    }

    private static void anIdIsZeroToThirtyOne() {
        Counted x = new Counted(2);
        due("train(0, 0)", x.train(0, 0), 1);
        due("train(31, 1)", x.train(31, 1), 1);
        due("label(0)", x.label(0), 0);
        due("label(31)", x.label(31), 1);
        due("train(-1, 0)", x.train(-1, 0), NONE);
        due("train(32, 0)", x.train(32, 0), NONE);
    }

    private static void everyIdIsOneOfItsOwn() {
        for (int id = 0; id < 32; id++) {
            Counted x = new Counted(2);
            due("train(" + id + ", 1)", x.train(id, 1), 1);
            for (int other = 0; other < 32; other++) {
                due("label(" + other + ") with document " + id, x.label(other), other == id ? 1 : NONE);
            }
        }
    }

    private static void noTwoIdsAreTheSame() {
        Counted x = new Counted(2);
        x.train(5, 0);
        due("the same id, another class", x.train(5, 1), PRESENT);
        due("label(5)", x.label(5), 0);
        due("documents(-1)", x.documents(-1), 1);
    }

    private static void aClassIsBelowC() {
        for (int classes = 2; classes <= 4; classes++) {
            Counted x = new Counted(classes);
            due("train(0, 0)", x.train(0, 0), 1);
            due("train(1, C - 1), C being " + classes, x.train(1, classes - 1), 1);
            due("train(2, C), C being " + classes, x.train(2, classes), NONE);
            due("train(2, -1), C being " + classes, x.train(2, -1), NONE);
            due("label(1), C being " + classes, x.label(1), classes - 1);
        }
    }

    private static void aDocumentHasEachWordAsOftenAsItStood() {
        Counted x = new Counted(2);
        x.trainText(0, 0, "a a a a a a a a a a a a a a a a a a a a");
        x.type("a");
        due("total(0)", x.total(0), 20);
        due("count(0, 0)", x.count(0, 0), 20);
        due("vocabulary()", x.vocabulary(), 1);
    }

    private static void aDocumentMayHaveNoWords() {
        Counted x = new Counted(2);
        due("train of no text", x.train(0, 0), 1);
        due("train of marks", x.trainText(1, 0, " .,! "), 1);
        due("total(0)", x.total(0), 0);
        due("documents(0)", x.documents(0), 2);
    }

    private static void aDocumentKeepsItsWordsWhenTheTextChanges() {
        Counted x = new Counted(2);
        x.trainText(0, 0, "tea");
        x.keys("pot");
        due("count of teapot", x.count(0, 0), 0);
        x.type("tea");
        due("count of tea", x.count(0, 0), 1);
        due("total(0)", x.total(0), 1);
    }

    // Terms: a refused call changes nothing

    private static void changesNothing(String call, Supplier<Counted> state, Consumer<Counted> refused) {
        for (int reached = 0; reached <= 24; reached += 6) {
            Counted x = withUnfinishedText(state);
            Counted twin = withUnfinishedText(state);
            refused.accept(x);
            due(call + ", then all the questions", Snapshot.of(x), Snapshot.of(twin));
            String failure = call + ", then fail(" + reached + ")";
            due(failure, x.fail(reached), twin.fail(reached));
            x.key('p');
            twin.key('p');
            due(failure + ", then a key and all the questions", Snapshot.of(x), Snapshot.of(twin));
            due(failure + ", then a key and clear()", x.clear(), twin.clear());
        }
    }

    /** The text ends within a run, so that it shows when a call parts it. */
    private static Counted withUnfinishedText(Supplier<Counted> state) {
        Counted x = state.get();
        x.type("tea cu");
        return x;
    }

    private static void aTrainingThatIsRefusedChangesNothing() {
        changesNothing("train(32, 0), NONE", States::withChanges, x -> due("train", x.train(32, 0), NONE));
        changesNothing("train(4, 4), NONE", States::withChanges, x -> due("train", x.train(4, 4), NONE));
        changesNothing("train(3, 0), PRESENT", States::withChanges, x -> due("train", x.train(3, 0), PRESENT));
        changesNothing("train(10, 0), MANY", States::withManyAndFull, x -> due("train", x.train(10, 0), MANY));
        changesNothing("train(10, 0), MANY", () -> States.withPendingDocuments(10),
                x -> due("train", x.train(10, 0), MANY));
        changesNothing("train(10, 0), FULL", States::withFourTimesSix, x -> due("train", x.train(10, 0), FULL));
        changesNothing("train(10, 0), FULL", () -> States.withPending(23), x -> due("train", x.train(10, 0), FULL));
    }

    private static void anUntrainingThatIsRefusedChangesNothing() {
        changesNothing("untrain(-1), NONE", States::withChanges, x -> due("untrain", x.untrain(-1), NONE));
        changesNothing("untrain(9), ABSENT", States::withChanges, x -> due("untrain", x.untrain(9), ABSENT));
        changesNothing("untrain(8), FULL", States::withManyAndFull, x -> due("untrain", x.untrain(8), FULL));
        changesNothing("untrain(3), FULL", States::withFourTimesSix, x -> due("untrain", x.untrain(3), FULL));
    }

    private static void aQuestionWithoutAnAnswerChangesNothing() {
        changesNothing("questions", States::withChanges, x -> {
            due("letter(9, 0)", x.letter(9, 0), NONE);
            due("documents(4)", x.documents(4), NONE);
            due("total(4)", x.total(4), NONE);
            due("count(4, 0)", x.count(4, 0), NONE);
            due("label(32)", x.label(32), NONE);
            due("order(4)", x.order(4), NONE);
            due("compare(0, 4)", x.compare(0, 4), -2);
        });
    }

    private static void aRefusedKeyChangesNothing() {
        changesNothing("key(31)", States::withChanges, x -> CHECK.due("key", x.key((char) 31), false));
    }

    // Promise 6

    private static void trainNoneForAnId() {
        Counted x = new Counted(2);
        for (int id : NO_IDS) {
            due("train(" + id + ", 0)", x.train(id, 0), NONE);
        }
        due("pending()", x.pending(), 0);
        due("documents(-1)", x.documents(-1), 0);
    }

    private static void trainNoneForAClass() {
        for (int classes = 2; classes <= 4; classes++) {
            Counted x = new Counted(classes);
            int[] wrong = {-1, -2, classes, classes + 1, 5, 256, LEAST, GREATEST};
            for (int c : wrong) {
                due("train(0, " + c + "), C being " + classes, x.train(0, c), NONE);
            }
            due("pending()", x.pending(), 0);
            due("documents(-1)", x.documents(-1), 0);
        }
    }

    private static void trainNoneForBoth() {
        Counted x = new Counted(2);
        due("train(-1, -1)", x.train(-1, -1), NONE);
        due("train(32, 2)", x.train(32, 2), NONE);
        due("train(least, greatest)", x.train(LEAST, GREATEST), NONE);
    }

    private static void trainPresent() {
        Counted x = new Counted(2);
        x.train(0, 0);
        x.train(31, 1);
        due("train(0, 0)", x.train(0, 0), PRESENT);
        due("train(0, 1)", x.train(0, 1), PRESENT);
        due("train(31, 0)", x.train(31, 0), PRESENT);
        x.sync();
        due("train(0, 0) of a safe one", x.train(0, 0), PRESENT);
        due("documents(-1)", x.documents(-1), 2);
    }

    private static void trainPresentOnlyInForce() {
        Counted x = new Counted(2);
        x.train(0, 0);
        x.sync();
        x.untrain(0);
        due("train(0, 1) of an untrained one", x.train(0, 1), 1);
        x.untrain(0);
        x.train(1, 0);
        x.fail(0);
        due("train(0, 1) of one that is back", x.train(0, 1), PRESENT);
        due("train(1, 0) of a lost one", x.train(1, 0), 1);
    }

    private static void trainMany() {
        Counted x = States.withDocuments(10);
        for (int id = 10; id < 32; id++) {
            due("train(" + id + ", 0)", x.train(id, 0), MANY);
        }
        due("documents(-1)", x.documents(-1), 10);
        due("pending()", x.pending(), 0);
    }

    private static void trainManyOnlyInForce() {
        Counted x = States.withDocuments(10);
        x.untrain(4);
        due("train(31, 0), nine in force", x.train(31, 0), 1);
        due("train(4, 0), ten in force", x.train(4, 0), MANY);
        x.fail(1);
        due("train(31, 0), one lost", x.train(31, 0), 1);
        x.untrain(31);
        x.untrain(5);
        x.fail(0);
        due("train(4, 0), nine back", x.train(4, 0), 1);
        due("train(31, 0), ten in force", x.train(31, 0), MANY);
    }

    private static void trainFull() {
        Counted x = States.withPending(24);
        due("train without words, 24 pending", x.train(0, 0), FULL);
        due("train of twenty words, 24 pending", x.trainText(0, 0, States.TWENTY_WORDS), FULL);
        due("documents(-1)", x.documents(-1), 0);
        x = States.withPending(23);
        due("train of one word, 23 pending", x.trainText(0, 0, "a"), FULL);
        due("label(0)", x.label(0), NONE);
        x = States.withPending(18);
        due("train of twenty words, 18 pending", x.trainText(0, 0, States.TWENTY_WORDS), 6);
    }

    private static void trainNoneBeforePresent() {
        Counted x = States.withDocuments(1);
        due("train(0, 4)", x.train(0, 4), NONE);
        due("train(0, -1)", x.train(0, -1), NONE);
    }

    private static void trainNoneBeforeMany() {
        Counted x = States.withDocuments(10);
        due("train(32, 0)", x.train(32, 0), NONE);
        due("train(-1, 0)", x.train(-1, 0), NONE);
        due("train(10, 4)", x.train(10, 4), NONE);
        due("train(10, -1)", x.train(10, -1), NONE);
    }

    private static void trainNoneBeforeFull() {
        Counted x = States.withPending(24);
        due("train(32, 0)", x.train(32, 0), NONE);
        due("train(-1, 0)", x.train(-1, 0), NONE);
        due("train(0, 4)", x.train(0, 4), NONE);
        due("train(0, -1)", x.train(0, -1), NONE);
    }

    private static void trainPresentBeforeMany() {
        Counted x = States.withDocuments(10);
        due("train(0, 0)", x.train(0, 0), PRESENT);
        due("train(9, 3)", x.train(9, 3), PRESENT);
    }

    private static void trainPresentBeforeFull() {
        Counted x = States.withDocuments(2);
        x.keys(States.TWENTY_WORDS);
        for (int id = 2; id < 6; id++) {
            x.train(id, 0);
        }
        due("pending()", x.pending(), 24);
        due("train(0, 0)", x.train(0, 0), PRESENT);
        due("train(5, 0)", x.train(5, 0), PRESENT);
        due("train(6, 0)", x.train(6, 0), FULL);
    }

    private static void trainManyBeforeFull() {
        Counted x = States.withManyAndFull();
        due("pending()", x.pending(), 24);
        due("train(10, 0)", x.train(10, 0), MANY);
    }

    private static void trainThreeOrFourAtOnce() {
        Counted x = States.withManyAndFull();
        due("NONE, PRESENT, MANY, FULL: train(9, 4)", x.train(9, 4), NONE);
        due("NONE, MANY, FULL: train(32, 0)", x.train(32, 0), NONE);
        due("NONE, MANY, FULL: train(10, -1)", x.train(10, -1), NONE);
        due("PRESENT, MANY, FULL: train(9, 0)", x.train(9, 0), PRESENT);
    }

    // Promise 7

    private static void untrainNone() {
        Counted x = States.withDocuments(10);
        for (int id : NO_IDS) {
            due("untrain(" + id + ")", x.untrain(id), NONE);
        }
        due("documents(-1)", x.documents(-1), 10);
        due("pending()", x.pending(), 0);
    }

    private static void untrainAbsent() {
        Counted x = new Counted(2);
        for (int id = 0; id < 32; id++) {
            due("untrain(" + id + ")", x.untrain(id), ABSENT);
        }
        due("pending()", x.pending(), 0);
    }

    private static void untrainAbsentWhenNotInForce() {
        Counted x = States.withDocuments(2);
        due("untrain(0)", x.untrain(0), 1);
        due("untrain(0) again", x.untrain(0), ABSENT);
        x.train(2, 0);
        x.fail(1);
        due("untrain(0), its untraining found", x.untrain(0), ABSENT);
        due("untrain(2), a lost one", x.untrain(2), ABSENT);
        due("untrain(1)", x.untrain(1), 1);
        x.fail(0);
        due("untrain(1), which is back", x.untrain(1), 1);
    }

    private static void untrainAnswersTheClass() {
        Counted x = new Counted(4);
        x.train(0, 0);
        x.train(31, 3);
        due("untrain(0)", x.untrain(0), 0);
        due("untrain(31)", x.untrain(31), 3);
        due("documents(-1)", x.documents(-1), 0);
    }

    private static void untrainFull() {
        Counted x = States.withManyAndFull();
        for (int id = 0; id < 10; id++) {
            due("untrain(" + id + ")", x.untrain(id), FULL);
        }
        due("documents(-1)", x.documents(-1), 10);
        due("pending()", x.pending(), 24);
        x = States.withPending(23);
        due("untrain(31), 23 pending", x.untrain(31), 0);
    }

    private static void untrainNoneBeforeAbsent() {
        Counted x = new Counted(2);
        for (int id : NO_IDS) {
            due("untrain(" + id + ")", x.untrain(id), NONE);
        }
    }

    private static void untrainNoneBeforeFull() {
        Counted x = States.withPending(24);
        for (int id : NO_IDS) {
            due("untrain(" + id + ")", x.untrain(id), NONE);
        }
    }

    private static void untrainAbsentBeforeFull() {
        Counted x = States.withPending(24);
        due("untrain(0)", x.untrain(0), ABSENT);
        due("untrain(31)", x.untrain(31), ABSENT);
    }

    private static void test(String name, Runnable body) {
        CHECK.test(name, body);
    }

    private static void termsOfDocuments() {
        test("Terms, DOCUMENTS: at most 10", DocumentBoundaryTest::documentsAreAtMostTen);
        test("Terms, DOCUMENTS: an id 0 .. 31", DocumentBoundaryTest::anIdIsZeroToThirtyOne);
        test("Terms, DOCUMENTS: each with an id", DocumentBoundaryTest::everyIdIsOneOfItsOwn);
        test("Terms, DOCUMENTS: no two the same", DocumentBoundaryTest::noTwoIdsAreTheSame);
        test("Terms, DOCUMENTS: a class 0 .. C - 1", DocumentBoundaryTest::aClassIsBelowC);
        test("Terms, DOCUMENTS: each as often as it stood there",
                DocumentBoundaryTest::aDocumentHasEachWordAsOftenAsItStood);
        test("Terms, DOCUMENTS: without words", DocumentBoundaryTest::aDocumentMayHaveNoWords);
        test("Terms, DOCUMENTS: the words of a text that changes",
                DocumentBoundaryTest::aDocumentKeepsItsWordsWhenTheTextChanges);
    }

    private static void termsOfRefusedCalls() {
        test("Terms, a refused call changes nothing: train",
                DocumentBoundaryTest::aTrainingThatIsRefusedChangesNothing);
        test("Terms, a refused call changes nothing: untrain",
                DocumentBoundaryTest::anUntrainingThatIsRefusedChangesNothing);
        test("Terms, a refused call changes nothing: questions",
                DocumentBoundaryTest::aQuestionWithoutAnAnswerChangesNothing);
        test("Terms, a refused call changes nothing: key", DocumentBoundaryTest::aRefusedKeyChangesNothing);
    }

    private static void promise6() {
        test("Promise 6: NONE when id is not 0 .. 31", DocumentBoundaryTest::trainNoneForAnId);
        test("Promise 6: NONE when there is no such class", DocumentBoundaryTest::trainNoneForAClass);
        test("Promise 6: NONE for both", DocumentBoundaryTest::trainNoneForBoth);
        test("Promise 6: PRESENT when a document has the id", DocumentBoundaryTest::trainPresent);
        test("Promise 6: PRESENT when a document in force has it", DocumentBoundaryTest::trainPresentOnlyInForce);
        test("Promise 6: MANY", DocumentBoundaryTest::trainMany);
        test("Promise 6: MANY, of those in force", DocumentBoundaryTest::trainManyOnlyInForce);
        test("Promise 6: FULL", DocumentBoundaryTest::trainFull);
        test("Promise 6: NONE before PRESENT", DocumentBoundaryTest::trainNoneBeforePresent);
        test("Promise 6: NONE before MANY", DocumentBoundaryTest::trainNoneBeforeMany);
        test("Promise 6: NONE before FULL", DocumentBoundaryTest::trainNoneBeforeFull);
        test("Promise 6: PRESENT before MANY", DocumentBoundaryTest::trainPresentBeforeMany);
        test("Promise 6: PRESENT before FULL", DocumentBoundaryTest::trainPresentBeforeFull);
        test("Promise 6: MANY before FULL", DocumentBoundaryTest::trainManyBeforeFull);
        test("Promise 6: three or four at once", DocumentBoundaryTest::trainThreeOrFourAtOnce);
    }

    private static void promise7() {
        test("Promise 7: NONE when id is not 0 .. 31", DocumentBoundaryTest::untrainNone);
        test("Promise 7: ABSENT when no document has it", DocumentBoundaryTest::untrainAbsent);
        test("Promise 7: ABSENT when none in force has it", DocumentBoundaryTest::untrainAbsentWhenNotInForce);
        test("Promise 7: answers its class, the least and the greatest", DocumentBoundaryTest::untrainAnswersTheClass);
        test("Promise 7: FULL", DocumentBoundaryTest::untrainFull);
        test("Promise 7: NONE before ABSENT", DocumentBoundaryTest::untrainNoneBeforeAbsent);
        test("Promise 7: NONE before FULL", DocumentBoundaryTest::untrainNoneBeforeFull);
        test("Promise 7: ABSENT before FULL", DocumentBoundaryTest::untrainAbsentBeforeFull);
    }

    public static void main(String[] args) {
        termsOfDocuments();
        termsOfRefusedCalls();
        promise6();
        promise7();
        CHECK.end();
    }
}
