/** The boundary cases of the log: promises 8 to 10, and what "Terms" says of it. */
public final class LogBoundaryTest {
    private static final int LEAST = Integer.MIN_VALUE;
    private static final int GREATEST = Integer.MAX_VALUE;
    private static final int NONE = -1;
    private static final int FULL = -5;
    private static final Check CHECK = new Check();

    private static void due(String call, long got, long want) {
        CHECK.due(call, got, want);
    }

    private static void due(String call, String got, String want) {
        CHECK.due(call, got, want);
    }

    // Terms: the log

    private static void theLogHasRoomFor24SingleBlocks() {
        Counted x = States.withPending(23);
        due("pending()", x.pending(), 23);
        due("block 24", x.untrain(31), 0);
        due("pending()", x.pending(), 24);
        due("block 25", x.train(31, 0), FULL);
        due("pending()", x.pending(), 24);
    }

    private static void theLogHasRoomForFourTimesSix() {
        Counted x = new Counted(2);
        x.keys(States.TWENTY_WORDS);
        for (int id = 0; id < 4; id++) {
            due("train(" + id + ", 0)", x.train(id, 0), 6);
        }
        due("pending()", x.pending(), 24);
        due("train(4, 0)", x.train(4, 0), FULL);
    }

    private static void aTrainingTakesABlockAndOneForEachFourWords() {
        int[] blocks = {1, 2, 2, 2, 2, 3, 3, 3, 3, 4, 4, 4, 4, 5, 5, 5, 5, 6, 6, 6, 6};
        for (int many = 0; many <= 20; many++) {
            Counted x = new Counted(2);
            due("train of " + many + " words", x.trainText(0, 0, States.words(many)), blocks[many]);
            due("pending() after " + many + " words", x.pending(), blocks[many]);
        }
    }

    private static void equalWordsTakeBlocksToo() {
        Counted x = new Counted(2);
        due("train of five equal words", x.trainText(0, 0, "a a a a a"), 3);
        due("train of one word of forty", x.trainText(1, 0, "aaaaaaaaaabbbbbbbbbbccccccccccdddddddddd"), 2);
    }

    private static void anUntrainingTakesABlock() {
        for (int many = 0; many <= 20; many += 5) {
            Counted x = new Counted(2);
            x.trainText(0, 0, States.words(many));
            x.sync();
            x.untrain(0);
            due("pending() after untraining " + many + " words", x.pending(), 1);
        }
    }

    private static void aChangeWithoutRoomIsRefused() {
        for (int pending = 17; pending <= 24; pending++) {
            for (int many = 0; many <= 20; many++) {
                int takes = 1 + (many + 3) / 4;
                Counted x = States.withPending(pending);
                x.type(States.words(many));
                boolean fits = pending + takes <= 24;
                due("train of " + takes + " blocks, " + pending + " pending", x.train(0, 1), fits ? takes : FULL);
                due("pending() then", x.pending(), fits ? pending + takes : pending);
            }
        }
    }

    private static void aSmallerChangeStillFits() {
        Counted x = States.withPending(23);
        due("two blocks", x.trainText(0, 1, "a"), FULL);
        due("one block", x.trainText(0, 1, ""), 1);
        due("pending()", x.pending(), 24);
    }

    private static void blocksArePendingUntilTheNextSync() {
        Counted x = States.withPending(24);
        x.sync();
        due("pending()", x.pending(), 0);
        x.keys(States.TWENTY_WORDS);
        for (int id = 0; id < 4; id++) {
            due("train(" + id + ", 0)", x.train(id, 0), 6);
        }
        due("train(4, 0)", x.train(4, 0), FULL);
    }

    private static void blocksArePendingUntilTheNextFailure() {
        Counted x = States.withPending(24);
        x.fail(24);
        due("pending()", x.pending(), 0);
        x.keys(States.TWENTY_WORDS);
        for (int id = 0; id < 4; id++) {
            due("train(" + id + ", 0)", x.train(id, 0), 6);
        }
        due("train(4, 0)", x.train(4, 0), FULL);
    }

    private static void aSyncMakesAllInForceSafe() {
        Counted x = States.withChanges();
        String before = Snapshot.of(x).replace("pending 14", "pending 0");
        due("sync()", x.sync(), 14);
        due("fail(0)", x.fail(0), 0);
        due("all the questions", Snapshot.of(x), before);
    }

    private static void onlyCompleteChangesAreFound() {
        int[] ends = {6, 7, 9, 12, 13, 14};
        for (int blocks = 0; blocks <= 15; blocks++) {
            int complete = 0;
            while (complete < 6 && ends[complete] <= blocks) {
                complete++;
            }
            Counted x = States.withChanges();
            String call = "fail(" + blocks + ")";
            due(call, x.fail(blocks), 6 - complete);
            due(call + ", then label(0)", x.label(0), complete >= 1 && complete < 6 ? 0 : NONE);
            due(call + ", then label(1)", x.label(1), complete >= 2 ? 1 : NONE);
            due(call + ", then label(2)", x.label(2), complete >= 3 ? 2 : NONE);
            due(call + ", then label(3)", x.label(3), complete >= 4 ? 3 : NONE);
            due(call + ", then label(9)", x.label(9), complete < 5 ? 3 : NONE);
        }
    }

    private static void aSmallChangeBehindAnIncompleteOneIsLost() {
        Counted x = new Counted(2);
        x.train(0, 1);
        x.trainText(1, 0, States.TWENTY_WORDS);
        x.trainText(2, 1, "");
        x.untrain(0);
        due("fail(6), which is one too few for the second change", x.fail(6), 3);
        due("label(0)", x.label(0), 1);
        due("label(1)", x.label(1), NONE);
        due("label(2)", x.label(2), NONE);
    }

    private static void whatIsFoundIsSafe() {
        for (int blocks = 0; blocks <= 14; blocks++) {
            Counted x = States.withChanges();
            x.fail(blocks);
            String found = Snapshot.of(x);
            due("fail(0) after fail(" + blocks + ")", x.fail(0), 0);
            due("all the questions", Snapshot.of(x), found);
        }
    }

    private static void noBlockIsPendingAfterAFailure() {
        for (int blocks = -1; blocks <= 15; blocks++) {
            Counted x = States.withChanges();
            x.fail(blocks);
            due("pending() after fail(" + blocks + ")", x.pending(), 0);
            due("sync() after fail(" + blocks + ")", x.sync(), 0);
        }
    }

    private static void theTextStaysAtAFailure() {
        Counted x = new Counted(2);
        x.trainText(0, 0, "one two");
        x.type("three fo");
        x.fail(0);
        due("words()", x.words(), 2);
        due("letter(0, 0)", x.letter(0, 0), 't');
        x.key('u');
        due("words(), the run gone on with", x.words(), 2);
        due("letter(1, 2)", x.letter(1, 2), 'u');
        due("clear()", x.clear(), 9);
    }

    private static void theTextStaysAtTheOtherCalls() {
        Counted x = new Counted(2);
        x.keys("one tw");
        x.train(0, 0);
        x.untrain(0);
        x.sync();
        x.key('o');
        due("words()", x.words(), 2);
        due("letter(1, 2)", x.letter(1, 2), 'o');
        due("clear()", x.clear(), 7);
    }

    // Promise 8

    private static void syncWithNonePending() {
        Counted x = new Counted(2);
        due("sync() at first", x.sync(), 0);
        x.train(0, 0);
        x.sync();
        due("sync() again", x.sync(), 0);
        x.train(1, 0);
        x.fail(0);
        due("sync() after a failure", x.sync(), 0);
        x.train(0, 0);
        due("sync() after a refused call", x.sync(), 0);
    }

    private static void syncWithPending() {
        for (int blocks = 1; blocks <= 24; blocks++) {
            due("sync(), " + blocks + " pending", States.withPending(blocks).sync(), blocks);
        }
        due("sync() after changes of several blocks", States.withChanges().sync(), 14);
    }

    // Promise 9

    private static void failWithMoreThanThereAre() {
        int[] more = {14, 15, 24, 25, GREATEST};
        for (int blocks : more) {
            Counted x = States.withChanges();
            String want = Snapshot.of(x).replace("pending 14", "pending 0");
            due("fail(" + blocks + ")", x.fail(blocks), 0);
            due("what is found after fail(" + blocks + ")", Snapshot.of(x), want);
        }
    }

    private static void failBelowZero() {
        int[] below = {0, -1, -2, -24, LEAST};
        for (int blocks : below) {
            Counted x = States.withChanges();
            due("fail(" + blocks + ")", x.fail(blocks), 6);
            due("documents(-1) after fail(" + blocks + ")", x.documents(-1), 1);
            due("label(9) after fail(" + blocks + ")", x.label(9), 3);
            due("vocabulary() after fail(" + blocks + ")", x.vocabulary(), 2);
        }
    }

    private static void failWithNonePending() {
        int[] any = {LEAST, -1, 0, 1, 24, 25, GREATEST};
        for (int blocks : any) {
            due("fail(" + blocks + ") at first", new Counted(2).fail(blocks), 0);
            Counted x = States.withDocuments(10);
            due("fail(" + blocks + ") after a sync", x.fail(blocks), 0);
            due("documents(-1) then", x.documents(-1), 10);
        }
    }

    private static void failWith24SingleBlocks() {
        for (int blocks = 0; blocks <= 24; blocks++) {
            Counted x = States.withPending(24);
            due("fail(" + blocks + ")", x.fail(blocks), 24 - blocks);
            due("documents(-1) after fail(" + blocks + ")", x.documents(-1), blocks % 2);
        }
    }

    private static void failAnswersChangesNotBlocks() {
        int[] reached = {0, 5, 6, 11, 12, 17, 18, 23, 24};
        int[] lost = {4, 4, 3, 3, 2, 2, 1, 1, 0};
        for (int i = 0; i < reached.length; i++) {
            Counted x = States.withFourTimesSix();
            due("fail(" + reached[i] + ")", x.fail(reached[i]), lost[i]);
            due("documents(-1) after fail(" + reached[i] + ")", x.documents(-1), 4 - lost[i]);
        }
    }

    private static void failFindsTheRightDocumentOfOneId() {
        for (int blocks = 0; blocks <= 4; blocks++) {
            Counted x = new Counted(4);
            x.trainText(7, 0, "old");
            x.sync();
            x.untrain(7);
            x.trainText(7, 1, "new");
            x.untrain(7);
            x.type("old new");
            x.fail(blocks);
            due("label(7) after fail(" + blocks + ")", x.label(7), blocks == 0 ? 0 : blocks == 3 ? 1 : NONE);
            due("count of old after fail(" + blocks + ")", x.count(0, 0), blocks == 0 ? 1 : 0);
            due("count of new after fail(" + blocks + ")", x.count(1, 1), blocks == 3 ? 1 : 0);
        }
    }

    private static void failAfterFail() {
        Counted x = States.withChanges();
        x.fail(9);
        x.trainText(4, 0, "tea");
        due("fail(1) after fail(9)", x.fail(1), 1);
        due("documents(-1)", x.documents(-1), 4);
        due("label(2)", x.label(2), 2);
        due("label(4)", x.label(4), NONE);
    }

    // Promise 10

    private static void pendingNone() {
        Counted x = new Counted(2);
        due("pending() at first", x.pending(), 0);
        x.train(0, 0);
        x.sync();
        due("pending() after a sync", x.pending(), 0);
        x.untrain(0);
        x.fail(0);
        due("pending() after a failure", x.pending(), 0);
        x.train(0, 0);
        due("pending() after a refused call", x.pending(), 0);
    }

    private static void pending24() {
        for (int blocks = 1; blocks <= 24; blocks++) {
            due("pending() after " + blocks + " changes", States.withPending(blocks).pending(), blocks);
        }
        Counted x = States.withPending(24);
        x.train(0, 0);
        x.untrain(0);
        due("pending() after refused calls", x.pending(), 24);
    }

    // At most 512 calls

    private static void the512thCallAnswers() {
        Counted x = new Counted(4);
        for (int i = 0; i < 160; i++) {
            x.train(i % 32, 3);
            x.untrain(i % 32);
            x.sync();
        }
        while (x.calls() < Counted.MOST_CALLS - 2) {
            x.pending();
        }
        due("call 511", x.train(31, 2), 1);
        due("call 512", x.untrain(31), 2);
    }

    private static void test(String name, Runnable body) {
        CHECK.test(name, body);
    }

    private static void termsOfTheLog() {
        test("Terms, THE LOG: room for 24 blocks", LogBoundaryTest::theLogHasRoomFor24SingleBlocks);
        test("Terms, THE LOG: room for four times six blocks", LogBoundaryTest::theLogHasRoomForFourTimesSix);
        test("Terms, THE LOG: one more for each four words, or part of four",
                LogBoundaryTest::aTrainingTakesABlockAndOneForEachFourWords);
        test("Terms, THE LOG: for each four words, equal or long ones too", LogBoundaryTest::equalWordsTakeBlocksToo);
        test("Terms, THE LOG: one that is untrained takes a block", LogBoundaryTest::anUntrainingTakesABlock);
        test("Terms, THE LOG: a change for which there is no room any more is refused",
                LogBoundaryTest::aChangeWithoutRoomIsRefused);
        test("Terms, THE LOG: one for which there is room is not", LogBoundaryTest::aSmallerChangeStillFits);
        test("Terms, THE LOG: pending until the next sync", LogBoundaryTest::blocksArePendingUntilTheNextSync);
        test("Terms, THE LOG: pending until the next failure", LogBoundaryTest::blocksArePendingUntilTheNextFailure);
        test("Terms, SYNC: makes all that is in force safe", LogBoundaryTest::aSyncMakesAllInForceSafe);
        test("Terms, FAILS: what was safe, with those changes all of whose blocks are among them",
                LogBoundaryTest::onlyCompleteChangesAreFound);
        test("Terms, FAILS: the first change that is not complete, and all behind it, are lost",
                LogBoundaryTest::aSmallChangeBehindAnIncompleteOneIsLost);
        test("Terms, FAILS: what is found then is safe", LogBoundaryTest::whatIsFoundIsSafe);
        test("Terms, FAILS: no block is pending", LogBoundaryTest::noBlockIsPendingAfterAFailure);
        test("Terms, FAILS: the text stays", LogBoundaryTest::theTextStaysAtAFailure);
        test("Terms, THE TEXT: stays at train, untrain and sync", LogBoundaryTest::theTextStaysAtTheOtherCalls);
    }

    private static void promises8To10() {
        test("Promise 8: none were pending", LogBoundaryTest::syncWithNonePending);
        test("Promise 8: up to 24 were pending", LogBoundaryTest::syncWithPending);
        test("Promise 9: all when it is more than there are", LogBoundaryTest::failWithMoreThanThereAre);
        test("Promise 9: none when it is below 0", LogBoundaryTest::failBelowZero);
        test("Promise 9: with none pending", LogBoundaryTest::failWithNonePending);
        test("Promise 9: of 24 changes", LogBoundaryTest::failWith24SingleBlocks);
        test("Promise 9: how many changes were lost, not blocks", LogBoundaryTest::failAnswersChangesNotBlocks);
        test("Promise 9: several changes of one id", LogBoundaryTest::failFindsTheRightDocumentOfOneId);
        test("Promise 9: a failure after a failure", LogBoundaryTest::failAfterFail);
        test("Promise 10: none pending", LogBoundaryTest::pendingNone);
        test("Promise 10: up to 24 pending", LogBoundaryTest::pending24);
    }

    public static void main(String[] args) {
        termsOfTheLog();
        promises8To10();
        test("What it is: at most 512 calls", LogBoundaryTest::the512thCallAnswers);
        CHECK.end();
    }
}
