/** Rows and the words that are used, the exceptions in their order, and runs of as many calls as there may be. */
final class UseSentences {
    private static final String TERMS = "Terms";
    private static final String LIMIT =
        "An object is used for at most 512 calls after it has been made; what later calls answer is free.";

    static void all(Sentences s) {
        localCellsOnly(s);
        whenPut(s);
        whenASaveLives(s);
        whenNotNewer(s);
        oneForEachCell(s);
        goWithTheSave(s);
        words(s);
        throwingChangesNothing(s);
        firstNamed(s);
        noSuchObject(s);
        outOfBounds(s);
        as512Calls(s);
    }

    private static void localCellsOnly(Sentences s) {
        s.run(TERMS, "A ROW is kept for a cell of a local object")
            .is("object(false)", 0).is("object(true)", 1).is("save()", 1).is("used()", 30).is("put(1, 0, 1)", 0)
            .is("used()", 30).is("put(1, 0, -2)", 1).is("used()", 30).is("put(0, 0, 1)", 0).is("used()", 33)
            .is("bytes(0, 1, 9)", 0).is("state(0, 1)", 0).is("get(0, 1)", 0).is("used()", 33);
    }

    private static void whenPut(Sentences s) {
        s.run(TERMS, "when its value is put (the same one, too)")
            .is("object(false)", 0).is("put(0, 1, 5)", 0).is("save()", 1).is("used()", 18).is("put(0, 0, 0)", 0)
            .is("used()", 21).is("put(0, 1, 5)", 5).is("used()", 24).is("put(0, 2, 5)", 0).is("used()", 27)
            .is("restore(1)", 1).is("get(0, 0)", 0).is("get(0, 1)", 5).is("get(0, 2)", 0);
        s.run(TERMS, "when its value is put (the same one, too)")
            .is("object(false)", 0).is("save()", 1)
            .outOfBounds("put(0, 8, 1)", "put(0, -1, 1)").noSuchElement("put(0, 0, -2)").is("used()", 18);
    }

    private static void whenASaveLives(Sentences s) {
        s.run(TERMS, "a save lives")
            .is("object(false)", 0).is("put(0, 0, 1)", 0).is("used()", 12).is("save()", 1).is("used()", 18)
            .is("put(0, 0, 2)", 1).is("used()", 21).is("restore(1)", 1).is("used()", 12).is("put(0, 0, 3)", 1)
            .is("used()", 12).is("save()", 2).is("put(0, 0, 4)", 3).is("used()", 21);
    }

    private static void whenNotNewer(Sentences s) {
        s.run(TERMS, "and the object is not newer than the latest one that lives")
            .is("object(false)", 0).is("save()", 1).is("object(false)", 1).is("put(1, 0, 1)", 0).is("used()", 30)
            .is("put(0, 0, 1)", 0).is("used()", 33).is("save()", 2).is("put(1, 0, 2)", 1).is("used()", 42)
            .is("put(1, 1, 2)", 0).is("used()", 45).is("object(false)", 2).is("put(2, 0, 2)", 0).is("used()", 57)
            .is("restore(2)", 1).is("used()", 33).is("put(1, 0, 3)", 1).is("used()", 33);
    }

    private static void oneForEachCell(Sentences s) {
        String sentence = "one for each cell of this kind since that save";
        Run each = s.run(TERMS, sentence).is("object(false)", 0).is("object(false)", 1).is("save()", 1);
        int words = 30;
        for (int i = 0; i < 8; i++) {
            for (int object = 0; object < 2; object++) {
                words += 3;
                String head = "put(" + object + ", " + i + ", ";
                each.is(head + "1)", 0).is("used()", words).is(head + "2)", 1).is("used()", words);
            }
        }
        Run again = s.run(TERMS, sentence).is("object(false)", 0).is("save()", 1).is("put(0, 0, 1)", 0).is("used()", 21);
        // Since that save: a later save keeps a row of its own for the same cell.
        again.is("save()", 2).is("used()", 27).is("put(0, 0, 2)", 1).is("used()", 30).is("put(0, 0, 3)", 2).is("used()", 30)
            .is("restore(2)", 1).is("used()", 21).is("put(0, 0, 4)", 1).is("used()", 21).is("put(0, 1, 4)", 0)
            .is("used()", 24).is("save()", 3).is("put(0, 1, 5)", 4).is("used()", 33);
        // The row of a later save is none of the earlier one's.
        s.run(TERMS, sentence)
            .is("object(false)", 0).is("save()", 1).is("save()", 2).is("put(0, 0, 1)", 0).is("used()", 27)
            .is("restore(2)", 1).is("used()", 18).is("put(0, 0, 2)", 0).is("used()", 21);
    }

    private static void goWithTheSave(Sentences s) {
        s.run(TERMS, "They go with that save.")
            .is("object(false)", 0).is("save()", 1).is("put(0, 0, 1)", 0).is("put(0, 1, 1)", 0).is("save()", 2)
            .is("put(0, 2, 1)", 0).is("used()", 33).is("restore(1)", -3).is("used()", 33).is("restore(2)", 1)
            .is("used()", 24).is("restore(2)", -2).is("used()", 24).is("restore(1)", 1).is("used()", 12)
            .is("save()", 3).is("used()", 18).is("put(0, 0, 1)", 0).is("used()", 21);
    }

    private static void words(Sentences s) {
        s.run(TERMS, "USED are 12 words for each object, 3 for each row, 6 for each save that lives, 10 for each pushed state.")
            .is("used()", 0).is("object(false)", 0).is("used()", 12).is("object(true)", 1).is("used()", 24)
            .is("push()", 1).is("used()", 34).is("save()", 1).is("used()", 40).is("put(0, 0, 1)", 0).is("used()", 43)
            .is("push()", 1).is("used()", 53).is("object(false)", 2).is("used()", 65).is("restore(1)", 1)
            .is("used()", 34).is("pop()", 0).is("used()", 24);
        Run full = s.run("Promise 12", "How many words are USED.").is("used()", 0);
        for (int k = 0; k < 200; k++) {
            full.is("object(" + (k >= 100) + ")", k);
        }
        for (int k = 1; k <= 30; k++) {
            full.is("push()", k);
        }
        for (int k = 1; k <= 16; k++) {
            full.is("save()", k).is("put(" + k + ", 7, 1)", 0);
        }
        full.is("used()", 2400 + 300 + 96 + 48).unsupported("object(false)", "push()", "save()")
            .is("used()", 2400 + 300 + 96 + 48);
    }

    private static void throwingChangesNothing(Sentences s) {
        // The run's own check leaves each of these out in turn and compares all that is seen from then on.
        Run run = s.run(TERMS, "A call that throws changes nothing")
            .is("object(false)", 0).is("object(true)", 1).is("put(0, 0, 3)", 0).is("bytes(1, 0, 4)", 0)
            .is("state(0, 5)", 0).is("push()", 1).is("save()", 1).is("object(false)", 2).is("put(0, 0, 6)", 3);
        run.noSuchElement("put(3, 0, 1)", "put(0, 0, -4)", "put(0, 1, -4)", "put(0, 1, least)", "get(3, 0)")
            .noSuchElement("state(0, -4)", "state(8, -4)", "bytes(3, 0, 1)", "old(3)")
            .outOfBounds("put(0, 8, 1)", "put(0, -1, 1)", "get(0, 8)", "state(10, 1)", "state(-1, 1)", "stateOf(10)")
            .outOfBounds("bytes(0, 8, 1)", "bytes(0, 0, 256)", "bytes(0, 0, -2)", "bytes(0, 0, least)")
            .illegalState("put(1, 0, -1)", "put(1, 7, -1)", "put(1, 0, -3)")
            .is("used()", 55).is("restore(1)", 1).is("get(0, 0)", 3);
        Run full = s.run(TERMS, "A call that throws changes nothing");
        for (int k = 0; k < 200; k++) {
            full.is("object(false)", k);
        }
        for (int k = 1; k <= 30; k++) {
            full.is("state(0, " + k + ")", k - 1).is("push()", k);
        }
        for (int k = 1; k <= 16; k++) {
            full.is("save()", k);
        }
        full.unsupported("object(false)", "object(true)", "push()", "save()").is("deepest()", 16).is("used()", 2796)
            .is("restore(16)", 1).is("pop()", -1).is("save()", 17).is("restore(17)", 1).unsupported("push()");
    }

    private static void firstNamed(Sentences s) {
        s.run(TERMS, "where several exceptions that a call names fit, it is the one that it names first.")
            .is("object(false)", 0).is("object(true)", 1)
            .noSuchElement("put(2, 8, 1)", "put(-1, -1, 1)", "put(2, 8, -1)", "put(2, 0, -3)", "put(least, least, least)")
            .noSuchElement("put(0, 8, -3)", "put(0, -1, least)", "put(1, 8, -3)", "put(1, greatest, -3)")
            .outOfBounds("put(1, 8, -1)", "put(1, -1, -1)", "put(1, least, -1)", "put(1, greatest, -1)")
            .illegalState("put(1, 7, -1)")
            .noSuchElement("get(2, 8)", "get(-1, -1)", "get(least, least)", "get(greatest, greatest)")
            .noSuchElement("state(10, -3)", "state(-1, -3)", "state(least, least)", "state(greatest, least)")
            .outOfBounds("state(10, -2)", "state(-1, -1)")
            .noSuchElement("bytes(2, 8, 1)", "bytes(2, 0, 256)", "bytes(-1, -1, -2)", "bytes(least, least, least)")
            .noSuchElement("bytes(greatest, greatest, greatest)").outOfBounds("bytes(0, 8, 256)", "bytes(1, -1, -2)");
    }

    private static void noSuchObject(Sentences s) {
        Run run = s.run(TERMS, "NoSuchElementException: there is no such object (or none that a value refers to).");
        for (String object : new String[] {"0", "-1", "1", "199", "200", "least", "greatest"}) {
            run.noSuchElement("put(" + object + ", 0, 0)", "get(" + object + ", 0)", "old(" + object + ")",
                "bytes(" + object + ", 0, 0)");
        }
        run.noSuchElement("state(0, -1)", "state(0, least)").is("object(false)", 0).is("get(0, 0)", 0)
            .noSuchElement("get(1, 0)", "get(-1, 0)").is("put(0, 0, -1)", 0).noSuchElement("put(0, 0, -2)")
            .is("save()", 1).is("object(false)", 1).is("put(0, 0, -2)", -1).is("restore(1)", 1)
            .noSuchElement("put(0, 0, -2)", "state(8, -2)", "put(1, 0, 0)", "get(1, 0)", "bytes(1, 0, -1)", "old(1)");
    }

    private static void outOfBounds(Sentences s) {
        Run run = s.run(TERMS, "IndexOutOfBoundsException: a number is not within its bounds.").is("object(false)", 0);
        for (String i : new String[] {"-1", "8", "9", "10", "255", "least", "greatest"}) {
            run.outOfBounds("put(0, " + i + ", 0)", "get(0, " + i + ")", "bytes(0, " + i + ", 0)");
        }
        for (String what : new String[] {"-1", "10", "11", "least", "greatest"}) {
            run.outOfBounds("state(" + what + ", 0)", "stateOf(" + what + ")");
        }
        for (String c : new String[] {"-2", "256", "least", "greatest"}) {
            run.outOfBounds("bytes(0, 0, " + c + ")");
        }
        run.is("put(0, 7, 0)", 0).is("get(0, 7)", 0).is("bytes(0, 7, 0)", 0).is("state(9, 0)", 0).is("stateOf(9)", 0);
    }

    private static void as512Calls(Sentences s) {
        Run saves = s.run("What it is", LIMIT);
        for (int k = 1; k <= 256; k++) {
            saves.is("save()", k).is("restore(" + k + ")", 1);
        }
        Run objects = s.run("What it is", LIMIT);
        int number = 0;
        for (int save = 1; save <= 2; save++) {
            objects.is("save()", save);
            for (int k = 0; k < 200; k++) {
                objects.is("object(false)", number++);
            }
            objects.is("restore(" + save + ")", 1);
        }
        while (number < 507) {
            objects.is("object(false)", number++);
        }
        objects.is("put(506, 7, -507)", 0);
        Run rows = s.run("What it is", LIMIT);
        for (int k = 0; k < 57; k++) {
            rows.is("object(false)", k);
        }
        rows.is("save()", 1);
        for (int k = 0; k < 453; k++) {
            rows.is("put(" + k / 8 + ", " + k % 8 + ", " + k + ")", 0);
        }
        rows.is("used()", 57 * 12 + 6 + 453 * 3);
    }

    private UseSentences() {
    }
}
