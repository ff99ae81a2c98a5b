/** Saves: their numbers, which of them live, and what is newer than which. */
final class SaveSentences {
    private static final String TERMS = "Terms";
    private static final int MOST = 16;

    static void all(Sentences s) {
        numbers(s);
        lives(s);
        newer(s);
        save(s);
        sixteen(s);
        old(s);
        deepest(s);
    }

    private static void numbers(Sentences s) {
        String sentence = "SAVES have numbers 1, 2, .., as they are made";
        s.run(TERMS, sentence)
            .is("restore(0)", -1).is("restore(1)", -1).is("save()", 1).is("save()", 2).is("restore(2)", 1)
            .is("save()", 3).is("restore(3)", 1).is("restore(1)", 1).is("save()", 4);
        Run refused = s.run(TERMS, sentence);
        for (int k = 1; k <= MOST; k++) {
            refused.is("save()", k);
        }
        refused.unsupported("save()", "save()").is("restore(17)", -1).is("restore(16)", 1).is("save()", 17);
    }

    private static void lives(Sentences s) {
        s.run(TERMS, "a save LIVES until it is restored.")
            .is("save()", 1).is("used()", 6).is("restore(2)", -1).is("used()", 6).is("restore(1)", 1).is("used()", 0)
            .is("restore(1)", -2).is("save()", 2).is("save()", 3).is("restore(1)", -2).is("restore(2)", -3)
            .is("used()", 12).is("restore(3)", 1).is("restore(3)", -2).is("used()", 6).is("restore(2)", 1)
            .is("restore(2)", -2).is("used()", 0);
    }

    private static void newer(Sentences s) {
        String sentence = "An object, or a pushed state, is NEWER than a save, if it was made behind it.";
        s.run(TERMS, sentence)
            .is("object(false)", 0).is("object(true)", 1).is("save()", 1).is("object(false)", 2).is("object(true)", 3)
            .is("old(0)", 0).is("old(1)", 0).is("old(2)", 1).is("old(3)", 1).is("put(0, 0, 1)", 0).is("put(2, 0, 1)", 0)
            .is("used()", 57).is("restore(1)", 1).is("get(0, 0)", 0).noSuchElement("get(2, 0)").is("get(3, 0)", 0);
        s.run(TERMS, sentence)
            .is("push()", 1).is("save()", 1).is("pop()", -1).is("push()", 1).is("pop()", 0).is("push()", 1)
            .is("restore(1)", 1).is("used()", 10).is("pop()", 0).is("pop()", -1);
        // One with the next number behind the gone ones is newer than the save before it, though few exist.
        s.run(TERMS, sentence)
            .is("save()", 1).is("save()", 2).is("object(false)", 0).is("restore(2)", 1).is("save()", 3)
            .is("object(false)", 1).is("old(1)", 2).is("restore(3)", 1).noSuchElement("old(1)")
            .is("object(false)", 2).is("save()", 4).is("old(2)", 1).is("put(2, 0, 7)", 0).is("restore(4)", 1)
            .is("get(2, 0)", 0);
    }

    private static void save(Sentences s) {
        s.run("Promise 5", "A save is made: its number.")
            .is("object(false)", 0).is("put(0, 0, 1)", 0).is("state(0, 2)", 0).is("state(9, 3)", 0).is("bytes(0, 0, 4)", 0)
            .is("push()", 1).is("used()", 22).is("save()", 1).is("used()", 28).is("get(0, 0)", 1).is("stateOf(0)", 2)
            .is("stateOf(9)", 3).is("bytes(0, 0, -1)", 4).is("save()", 2).is("used()", 34).is("get(0, 0)", 1);
    }

    private static void sixteen(Sentences s) {
        String sentence = "UnsupportedOperationException when 16 live.";
        Run run = s.run("Promise 5", sentence);
        for (int k = 1; k <= MOST; k++) {
            run.is("save()", k);
        }
        run.unsupported("save()").is("used()", 96).is("deepest()", 16).is("restore(16)", 1).is("save()", 17)
            .unsupported("save()").is("restore(17)", 1).is("restore(15)", 1).is("save()", 18).is("save()", 19)
            .unsupported("save()").is("used()", 96);
        // It counts those that live, not those that were made.
        Run oneAtATime = s.run("Promise 5", sentence);
        for (int k = 1; k <= 40; k++) {
            oneAtATime.is("save()", k).is("restore(" + k + ")", 1);
        }
        for (int k = 41; k <= 56; k++) {
            oneAtATime.is("save()", k);
        }
        oneAtATime.unsupported("save()").is("used()", 96);
    }

    private static void old(Sentences s) {
        String sentence = "How many of the saves that live were made before an object.";
        Run run = s.run("Promise 13", sentence).is("object(false)", 0).is("object(true)", 1);
        for (int k = 1; k <= MOST; k++) {
            run.is("save()", k).is("object(" + (k % 2 == 0) + ")", k + 1).is("old(" + (k + 1) + ")", k);
        }
        run.is("old(0)", 0).is("old(1)", 0).is("old(2)", 1).is("old(17)", 16);
        for (int k = MOST; k >= 1; k--) {
            run.is("restore(" + k + ")", 1).is("old(17)", k - 1).is("old(0)", 0);
        }
        run.is("old(1)", 0).is("old(3)", 0).noSuchElement("old(2)").is("save()", 17).is("old(17)", 0);
        s.run("Promise 13", "NoSuchElementException")
            .noSuchElement("old(0)").is("object(false)", 0).is("old(0)", 0)
            .noSuchElement("old(-1)", "old(1)", "old(least)", "old(greatest)")
            .is("save()", 1).is("object(false)", 1).is("old(1)", 1).is("restore(1)", 1).noSuchElement("old(1)");
    }

    private static void deepest(Sentences s) {
        String sentence = "The greatest number of saves that lived at once.";
        s.run("Promise 14", sentence)
            .is("deepest()", 0).is("save()", 1).is("deepest()", 1).is("restore(1)", 1).is("deepest()", 1)
            .is("save()", 2).is("deepest()", 1).is("save()", 3).is("deepest()", 2).is("restore(2)", -3)
            .is("restore(3)", 1).is("restore(2)", 1).is("deepest()", 2).is("save()", 4).is("deepest()", 2)
            .is("save()", 5).is("deepest()", 2).is("save()", 6).is("deepest()", 3);
        Run full = s.run("Promise 14", sentence);
        for (int k = 1; k <= MOST; k++) {
            full.is("save()", k).is("deepest()", k);
        }
        full.unsupported("save()").is("deepest()", 16).is("restore(16)", 1).is("deepest()", 16).is("save()", 17)
            .is("deepest()", 16).unsupported("save()").is("deepest()", 16);
    }

    private SaveSentences() {
    }
}
