/** What a restore undoes, what it leaves as it is, and when nothing is done. */
final class RestoreSentences {
    private static final String TERMS = "Terms";
    private static final String PROMISE = "Promise 6";

    static void all(Sentences s) {
        cells(s);
        cellsOfSixteenSaves(s);
        newerLocalsAreGone(s);
        laterPushedAreGone(s);
        parameters(s);
        whatStays(s);
        restored(s);
        neverMade(s);
        livesNoMore(s);
        laterOneLives(s);
        keptRefersToNewer(s);
        firstNamedIsAnswered(s);
    }

    private static void cells(Sentences s) {
        String sentence = "TO RESTORE a save: each cell of each local object that is not newer gets the value that it had "
            + "when the save was made";
        Run each = s.run(TERMS, sentence).is("object(false)", 0).is("object(false)", 1);
        for (int object = 0; object < 2; object++) {
            for (int i = 0; i < 8; i++) {
                each.is("put(" + object + ", " + i + ", " + (10 * object + i) + ")", 0);
            }
        }
        each.is("save()", 1);
        for (int object = 0; object < 2; object++) {
            for (int i = 0; i < 8; i++) {
                String head = "put(" + object + ", " + i + ", ";
                each.is(head + "50)", 10 * object + i).is(head + "60)", 50);
            }
        }
        each.is("restore(1)", 1);
        for (int object = 0; object < 2; object++) {
            for (int i = 0; i < 8; i++) {
                each.is("get(" + object + ", " + i + ")", 10 * object + i);
            }
        }
        // Values of every kind come back: the greatest, 0, and references.
        s.run(TERMS, sentence)
            .is("object(false)", 0).is("object(true)", 1).is("put(0, 0, greatest)", 0).is("put(0, 1, -1)", 0)
            .is("put(0, 2, -2)", 0).is("save()", 1).is("object(false)", 2).is("put(0, 0, -3)", Integer.MAX_VALUE)
            .is("put(0, 1, -3)", -1).is("put(0, 2, 0)", -2).is("put(0, 3, -3)", 0).is("put(0, 3, 0)", -3)
            .is("restore(1)", 1).is("get(0, 0)", Integer.MAX_VALUE).is("get(0, 1)", -1).is("get(0, 2)", -2)
            .is("get(0, 3)", 0);
    }

    private static void cellsOfSixteenSaves(Sentences s) {
        String sentence = "each cell of each local object that is not newer gets the value that it had when the save was made";
        Run run = s.run(TERMS, sentence).is("object(false)", 0).is("put(0, 7, 100)", 0);
        for (int k = 1; k <= 16; k++) {
            run.is("save()", k);
            // Every third save has no put behind it, and must not lose what an earlier one holds.
            if (k % 3 != 0) {
                run.is("put(0, 7, " + (100 + k) + ")", 100 + (k % 3 == 1 && k > 1 ? k - 2 : k - 1));
            }
        }
        for (int k = 16; k >= 1; k--) {
            int before = k - 1;
            run.is("restore(" + k + ")", 1).is("get(0, 7)", 100 + (before % 3 == 0 && before > 0 ? before - 1 : before));
        }
        // A put between two restores is undone by the later of them alone.
        s.run(TERMS, sentence)
            .is("object(false)", 0).is("put(0, 0, 1)", 0).is("save()", 1).is("save()", 2).is("put(0, 0, 2)", 1)
            .is("restore(2)", 1).is("get(0, 0)", 1).is("put(0, 0, 3)", 1).is("save()", 3).is("put(0, 0, 4)", 3)
            .is("restore(3)", 1).is("get(0, 0)", 3).is("restore(1)", 1).is("get(0, 0)", 1).is("put(0, 0, 5)", 1)
            .is("get(0, 0)", 5);
        // Newer than save 1, not newer than save 2: what it had when save 2 was made.
        s.run(TERMS, sentence)
            .is("save()", 1).is("object(false)", 0).is("put(0, 0, 1)", 0).is("save()", 2).is("put(0, 0, 2)", 1)
            .is("restore(2)", 1).is("get(0, 0)", 1).is("restore(1)", 1).noSuchElement("get(0, 0)");
    }

    private static void newerLocalsAreGone(Sentences s) {
        Run run = s.run(TERMS, "local objects that are newer are gone").is("object(false)", 0).is("save()", 1)
            .is("object(false)", 1).is("object(true)", 2).is("save()", 2).is("object(false)", 3).is("object(true)", 4)
            .is("restore(2)", 1).noSuchElement("get(3, 0)", "put(3, 0, 1)", "bytes(3, 0, 1)", "old(3)")
            .noSuchElement("put(0, 0, -4)", "state(0, -4)").is("get(1, 0)", 0).is("get(4, 0)", 0).is("used()", 54);
        run.is("restore(1)", 1).noSuchElement("get(1, 0)", "get(3, 0)").is("get(0, 0)", 0).is("get(2, 0)", 0)
            .is("get(4, 0)", 0).is("used()", 36);
        Run full = s.run(TERMS, "local objects that are newer are gone").is("save()", 1);
        for (int k = 0; k < 200; k++) {
            full.is("object(false)", k);
        }
        full.is("used()", 2406).is("restore(1)", 1).is("used()", 0)
            .noSuchElement("get(0, 0)", "get(1, 0)", "get(100, 0)", "get(198, 0)", "get(199, 0)");
    }

    private static void laterPushedAreGone(Sentences s) {
        s.run(TERMS, "states that were pushed behind it, too")
            .is("state(0, 1)", 0).is("push()", 1).is("save()", 1).is("state(0, 2)", 1).is("push()", 1).is("push()", 2)
            .is("save()", 2).is("push()", 1).is("used()", 52).is("restore(2)", 1).is("used()", 36).is("restore(1)", 1)
            .is("used()", 10).is("state(0, 9)", 1).is("pop()", 0).is("stateOf(0)", 1).is("pop()", -1);
        Run full = s.run(TERMS, "states that were pushed behind it, too").is("save()", 1);
        for (int k = 1; k <= 30; k++) {
            full.is("push()", k);
        }
        full.unsupported("push()").is("restore(1)", 1).is("used()", 0).is("pop()", -1).is("push()", 1);
    }

    private static void parameters(Sentences s) {
        String sentence = "the parameters are as they were then, but for the kept ones.";
        Run run = s.run(TERMS, sentence);
        for (int what = 0; what < 10; what++) {
            run.is("state(" + what + ", " + (10 + what) + ")", 0);
        }
        run.is("save()", 1);
        for (int what = 0; what < 10; what++) {
            run.is("state(" + what + ", " + (20 + what) + ")", 10 + what);
        }
        run.is("save()", 2);
        for (int what = 0; what < 10; what++) {
            run.is("state(" + what + ", " + (30 + what) + ")", 20 + what);
        }
        for (int save = 2; save >= 1; save--) {
            run.is("restore(" + save + ")", 1);
            for (int what = 0; what < 10; what++) {
                run.is("stateOf(" + what + ")", (what < 8 ? 10 * save : 30) + what);
            }
        }
        // A pop behind the save changes the parameters, too.
        s.run(TERMS, sentence)
            .is("state(7, 1)", 0).is("save()", 1).is("state(7, 2)", 1).is("push()", 1).is("state(7, 3)", 2)
            .is("pop()", 0).is("stateOf(7)", 2).is("restore(1)", 1).is("stateOf(7)", 1);
        s.run(TERMS, "8 and 9 are KEPT.")
            .is("save()", 1).is("state(7, 1)", 0).is("state(8, 2)", 0).is("state(9, 3)", 0).is("restore(1)", 1)
            .is("stateOf(7)", 0).is("stateOf(8)", 2).is("stateOf(9)", 3)
            .is("push()", 1).is("state(7, 4)", 0).is("state(8, 5)", 2).is("state(9, 6)", 3).is("pop()", 0)
            .is("stateOf(7)", 0).is("stateOf(8)", 5).is("stateOf(9)", 6);
    }

    private static void whatStays(Sentences s) {
        String sentence = "Bytes stay as they are, so do global objects with their cells.";
        Run bytes = s.run(TERMS, sentence).is("object(false)", 0).is("object(true)", 1).is("save()", 1);
        for (int object = 0; object < 2; object++) {
            for (int i = 0; i < 8; i++) {
                bytes.is("bytes(" + object + ", " + i + ", " + (255 - i) + ")", 0);
            }
        }
        bytes.is("put(0, 0, 1)", 0).is("restore(1)", 1).is("get(0, 0)", 0);
        for (int object = 0; object < 2; object++) {
            for (int i = 0; i < 8; i++) {
                bytes.is("bytes(" + object + ", " + i + ", -1)", 255 - i);
            }
        }
        Run cells = s.run(TERMS, sentence).is("object(true)", 0).is("save()", 1).is("object(true)", 1);
        for (int i = 0; i < 8; i++) {
            cells.is("put(0, " + i + ", -2)", 0).is("put(1, " + i + ", -1)", 0);
        }
        cells.is("bytes(1, 7, 9)", 0).is("restore(1)", 1);
        for (int i = 0; i < 8; i++) {
            cells.is("get(0, " + i + ")", -2).is("get(1, " + i + ")", -1);
        }
        cells.is("bytes(1, 7, -1)", 9).is("used()", 24);
    }

    private static void restored(Sentences s) {
        s.run(PROMISE, "A save is RESTORED: 1; or nothing is done")
            .is("object(false)", 0).is("save()", 1).is("put(0, 0, 1)", 0).is("state(0, 2)", 0).is("push()", 1)
            .is("restore(2)", -1).is("restore(0)", -1).is("get(0, 0)", 1).is("stateOf(0)", 2).is("used()", 31)
            .is("restore(1)", 1).is("get(0, 0)", 0).is("stateOf(0)", 0).is("used()", 12)
            .is("put(0, 0, 3)", 0).is("state(0, 4)", 0).is("restore(1)", -2).is("get(0, 0)", 3).is("stateOf(0)", 4);
    }

    private static void neverMade(Sentences s) {
        String sentence = "-1 when there never was one of that number";
        s.run(PROMISE, sentence)
            .is("restore(0)", -1).is("restore(1)", -1).is("restore(-1)", -1).is("restore(least)", -1)
            .is("restore(greatest)", -1);
        s.run(PROMISE, sentence)
            .is("save()", 1).is("save()", 2).is("restore(0)", -1).is("restore(3)", -1).is("restore(-1)", -1)
            .is("restore(-2)", -1).is("restore(least)", -1).is("restore(greatest)", -1).is("used()", 12)
            .is("restore(2)", 1).is("restore(3)", -1).is("restore(1)", 1).is("restore(3)", -1).is("restore(0)", -1);
    }

    private static void livesNoMore(Sentences s) {
        Run run = s.run(PROMISE, "-2 when it does not live any more");
        for (int k = 1; k <= 20; k++) {
            run.is("save()", k).is("restore(" + k + ")", 1).is("restore(" + k + ")", -2);
        }
        run.is("restore(1)", -2).is("restore(20)", -2).is("restore(21)", -1).is("save()", 21).is("restore(1)", -2)
            .is("restore(20)", -2).is("used()", 6).is("restore(21)", 1).is("restore(21)", -2);
    }

    private static void laterOneLives(Sentences s) {
        Run run = s.run(PROMISE, "-3 when a save that was made behind it lives");
        for (int k = 1; k <= 16; k++) {
            run.is("save()", k);
        }
        for (int k = 1; k <= 15; k++) {
            run.is("restore(" + k + ")", -3);
        }
        run.is("used()", 96).is("restore(16)", 1).is("restore(14)", -3).is("restore(15)", 1).is("restore(14)", 1)
            .is("restore(16)", -2).is("save()", 17).is("restore(13)", -3).is("restore(17)", 1).is("restore(13)", 1);
    }

    private static void keptRefersToNewer(Sentences s) {
        String sentence = "-4 when a kept parameter refers to a local object that is newer than it";
        for (int what = 8; what <= 9; what++) {
            String head = "state(" + what + ", ";
            s.run(PROMISE, sentence)
                .is("object(false)", 0).is("object(true)", 1).is("save()", 1).is("object(false)", 2)
                .is("object(true)", 3).is(head + "-3)", 0).is("put(0, 0, 5)", 0).is("state(0, 6)", 0).is("push()", 1)
                .is("restore(1)", -4).is("restore(1)", -4).is("get(0, 0)", 5).is("stateOf(0)", 6).is("get(2, 0)", 0)
                .is("used()", 67).is("pop()", 0).is(head + "0)", -3).is("restore(1)", 1).is("stateOf(0)", 0);
            s.run(PROMISE, sentence)
                .is("object(false)", 0).is("save()", 1).is(head + "-1)", 0).is("restore(1)", 1)
                .is("stateOf(" + what + ")", -1);
            s.run(PROMISE, sentence)
                .is("save()", 1).is("object(true)", 0).is(head + "-1)", 0).is("restore(1)", 1)
                .is("stateOf(" + what + ")", -1);
            s.run(PROMISE, sentence)
                .is("save()", 1).is("object(false)", 0).is(head + "-1)", 0).is(head + "greatest)", -1)
                .is("restore(1)", 1).is("stateOf(" + what + ")", Integer.MAX_VALUE);
            // Newer than save 1 alone: save 2 may be restored, save 1 not.
            s.run(PROMISE, sentence)
                .is("save()", 1).is("object(false)", 0).is("save()", 2).is(head + "-1)", 0).is("restore(2)", 1)
                .is("restore(1)", -4).is(head + "7)", -1).is("restore(1)", 1);
        }
        // Parameters that are not kept, cells and pushed states do not hinder it.
        Run others = s.run(PROMISE, sentence).is("object(false)", 0).is("save()", 1).is("object(false)", 1);
        for (int what = 0; what < 8; what++) {
            others.is("state(" + what + ", -2)", 0);
        }
        others.is("push()", 1).is("put(0, 0, -2)", 0).is("put(1, 0, -2)", 0).is("restore(1)", 1);
        for (int what = 0; what < 8; what++) {
            others.is("stateOf(" + what + ")", 0);
        }
    }

    private static void firstNamedIsAnswered(Sentences s) {
        s.run(PROMISE, "-4 when a kept parameter refers to a local object that is newer than it")
            .is("save()", 1).is("save()", 2).is("object(false)", 0).is("state(8, -1)", 0).is("restore(1)", -3)
            .is("restore(2)", -4).is("restore(3)", -1).is("restore(0)", -1).is("state(8, 0)", -1).is("restore(2)", 1)
            .is("object(false)", 1).is("state(9, -2)", 0).is("restore(2)", -2).is("restore(1)", -4);
    }

    private RestoreSentences() {
    }
}
