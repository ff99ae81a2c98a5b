/** Objects, their cells and bytes, and the values that these may hold. */
final class ObjectSentences {
    private static final String TERMS = "Terms";

    static void all(Sentences s) {
        numbers(s);
        zeroAtFirst(s);
        localOrGlobal(s);
        values(s);
        references(s);
        globalToLocal(s);
        object(s);
        twoHundred(s);
        put(s);
        get(s);
        bytes(s);
    }

    /** An object 0 that is local and an object 1 that is global. */
    private static Run withLocalAndGlobal(Run run) {
        return run.is("object(false)", 0).is("object(true)", 1);
    }

    private static void numbers(Sentences s) {
        String sentence = "OBJECTS have numbers 0, 1, .., as they are made (a number is never given twice)";
        s.run(TERMS, sentence)
            .is("object(false)", 0).is("object(true)", 1).is("object(true)", 2).is("object(false)", 3);
        s.run(TERMS, sentence)
            .is("save()", 1).is("object(false)", 0).is("object(false)", 1).is("restore(1)", 1)
            .is("object(false)", 2).noSuchElement("get(0, 0)", "get(1, 0)").is("get(2, 0)", 0)
            .is("save()", 2).is("object(true)", 3).is("restore(2)", 1).is("object(true)", 4);
        Run refused = s.run(TERMS, sentence).is("save()", 1);
        for (int k = 0; k < 200; k++) {
            refused.is("object(false)", k);
        }
        refused.unsupported("object(false)", "object(true)").is("restore(1)", 1)
            .is("object(true)", 200).is("object(false)", 201).noSuchElement("get(0, 0)", "get(199, 0)", "get(202, 0)");
    }

    private static void zeroAtFirst(Sentences s) {
        Run fresh = withLocalAndGlobal(s.run(TERMS, "8 CELLS and 8 BYTES, all 0 at first"));
        for (int object = 0; object < 2; object++) {
            for (int i = 0; i < 8; i++) {
                fresh.is("get(" + object + ", " + i + ")", 0).is("bytes(" + object + ", " + i + ", -1)", 0);
            }
            fresh.outOfBounds("get(" + object + ", 8)", "bytes(" + object + ", 8, -1)");
        }
        Run inPlaceOfOneGone = s.run(TERMS, "8 CELLS and 8 BYTES, all 0 at first").is("save()", 1)
            .is("object(false)", 0);
        for (int i = 0; i < 8; i++) {
            inPlaceOfOneGone.is("put(0, " + i + ", 5)", 0).is("bytes(0, " + i + ", 6)", 0);
        }
        inPlaceOfOneGone.is("restore(1)", 1).is("object(false)", 1);
        for (int i = 0; i < 8; i++) {
            inPlaceOfOneGone.is("put(1, " + i + ", 5)", 0).is("bytes(1, " + i + ", 6)", 0);
        }
    }

    private static void localOrGlobal(Sentences s) {
        s.run(TERMS, "they are LOCAL or GLOBAL")
            .is("save()", 1).is("object(false)", 0).is("object(true)", 1).is("restore(1)", 1)
            .noSuchElement("get(0, 0)").is("get(1, 0)", 0);
    }

    private static void values(Sentences s) {
        withLocalAndGlobal(s.run(TERMS, "A cell has a value: a number of 0 or more"))
            .is("put(0, 0, greatest)", 0).is("put(0, 0, 2147483646)", Integer.MAX_VALUE)
            .is("put(0, 0, 0)", 2147483646).is("put(0, 0, 1)", 0).is("get(0, 0)", 1)
            .is("put(1, 7, greatest)", 0).is("put(1, 7, 2)", Integer.MAX_VALUE).is("get(1, 7)", 2);
    }

    private static void references(Sentences s) {
        String sentence = "or, below 0, a REFERENCE to the object -1 - value";
        s.run(TERMS, sentence)
            .is("object(false)", 0).is("put(0, 0, -1)", 0).is("get(0, 0)", -1)
            .noSuchElement("put(0, 0, -2)", "put(0, 0, -3)").is("object(true)", 1)
            .is("put(0, 0, -2)", -1).noSuchElement("put(0, 0, -3)").is("get(0, 0)", -2)
            .is("state(0, -2)", 0).noSuchElement("state(0, -3)");
        s.run(TERMS, sentence)
            .is("object(false)", 0)
            .noSuchElement("put(0, 0, least)", "put(0, 0, -2147483647)", "state(0, least)", "state(0, -2147483647)");
        Run full = s.run(TERMS, sentence);
        for (int k = 0; k < 200; k++) {
            full.is("object(" + (k == 199) + ")", k);
        }
        full.is("put(0, 0, -200)", 0).is("put(199, 0, -200)", 0).noSuchElement("put(0, 0, -201)")
            .illegalState("put(199, 0, -199)").is("state(9, -200)", 0).noSuchElement("state(9, -201)");
    }

    private static void globalToLocal(Sentences s) {
        String sentence = "No cell of a global object has one to a local object.";
        withLocalAndGlobal(s.run(TERMS, sentence))
            .illegalState("put(1, 0, -1)", "put(1, 7, -1)").is("get(1, 0)", 0).is("get(1, 7)", 0)
            .is("put(1, 0, -2)", 0).is("put(0, 0, -1)", 0).is("put(0, 1, -2)", 0);
        // Of a global object that is gone at no restore, and of a local one that is.
        withLocalAndGlobal(s.run(TERMS, sentence)).is("save()", 1).is("object(false)", 2).is("object(true)", 3)
            .illegalState("put(1, 0, -3)", "put(3, 0, -3)", "put(3, 0, -1)").is("put(1, 0, -4)", 0)
            .is("restore(1)", 1).is("get(1, 0)", -4).noSuchElement("put(1, 0, -3)").is("put(1, 0, -4)", -4);
    }

    private static void object(Sentences s) {
        s.run("Promise 2", "A new object: its number.")
            .is("object(true)", 0).is("object(false)", 1).noSuchElement("old(2)").is("object(false)", 2).is("old(2)", 0)
            .is("used()", 36);
    }

    private static void twoHundred(Sentences s) {
        String sentence = "UnsupportedOperationException when there are 200.";
        for (boolean global : new boolean[] {false, true}) {
            Run of = s.run("Promise 2", sentence);
            for (int k = 0; k < 200; k++) {
                of.is("object(" + global + ")", k);
            }
            of.unsupported("object(false)", "object(true)").is("used()", 2400).is("get(199, 7)", 0)
                .noSuchElement("get(200, 7)", "bytes(200, 7, -1)", "old(200)");
        }
        Run withRoomAgain = s.run("Promise 2", sentence).is("object(false)", 0).is("save()", 1);
        for (int k = 1; k < 199; k++) {
            withRoomAgain.is("object(false)", k);
        }
        withRoomAgain.is("object(true)", 199).unsupported("object(false)").is("restore(1)", 1).is("used()", 24);
        for (int k = 200; k < 398; k++) {
            withRoomAgain.is("object(true)", k);
        }
        withRoomAgain.unsupported("object(true)", "object(false)").is("used()", 2400).is("get(397, 0)", 0);
    }

    private static void put(Sentences s) {
        String promise = "Promise 3";
        Run each = withLocalAndGlobal(s.run(promise, "A cell i (0 .. 7) gets a value: the one before."));
        for (int object = 0; object < 2; object++) {
            for (int i = 0; i < 8; i++) {
                int value = 1 + 8 * object + i;
                each.is("put(" + object + ", " + i + ", " + value + ")", 0);
            }
        }
        for (int object = 0; object < 2; object++) {
            for (int i = 0; i < 8; i++) {
                int value = 1 + 8 * object + i;
                each.is("put(" + object + ", " + i + ", 99)", value).is("get(" + object + ", " + i + ")", 99);
            }
        }
        withLocalAndGlobal(s.run(promise, "NoSuchElementException"))
            .is("put(0, 0, 1)", 0).is("put(1, 0, 1)", 0)
            .noSuchElement("put(-1, 0, 1)", "put(2, 0, 1)", "put(least, 0, 1)", "put(greatest, 0, 1)")
            .noSuchElement("put(0, 0, -3)", "put(1, 0, -3)", "put(0, 0, least)", "put(1, 0, least)")
            .is("get(0, 0)", 1).is("get(1, 0)", 1);
        withLocalAndGlobal(s.run(promise, "IndexOutOfBoundsException"))
            .is("save()", 1).is("put(0, 0, 1)", 0).is("put(0, 7, 1)", 0).is("put(1, 0, 1)", 0).is("put(1, 7, 1)", 0)
            .outOfBounds("put(0, -1, 1)", "put(0, 8, 1)", "put(0, least, 1)", "put(0, greatest, 1)")
            .outOfBounds("put(1, -1, 1)", "put(1, 8, 1)", "put(1, least, 1)", "put(1, greatest, 1)")
            .is("used()", 36);
        withLocalAndGlobal(s.run(promise, "IllegalStateException when a global object's cell would refer to a local one."))
            .illegalState("put(1, 0, -1)", "put(1, 7, -1)").is("put(1, 0, -2)", 0).is("put(0, 0, -1)", 0)
            .illegalState("put(1, 0, -1)").is("get(1, 0)", -2).is("put(1, 0, 0)", -2);
    }

    private static void get(Sentences s) {
        String promise = "Promise 4";
        withLocalAndGlobal(s.run(promise, "The value of a cell."))
            .is("put(0, 0, 3)", 0).is("put(0, 7, -1)", 0).is("put(1, 0, greatest)", 0).is("put(1, 7, -2)", 0)
            .is("get(0, 0)", 3).is("get(0, 7)", -1).is("get(1, 0)", Integer.MAX_VALUE).is("get(1, 7)", -2)
            .is("get(0, 1)", 0).is("get(0, 6)", 0).is("get(1, 1)", 0).is("get(0, 0)", 3);
        withLocalAndGlobal(s.run(promise, "NoSuchElementException"))
            .noSuchElement("get(-1, 0)", "get(2, 0)", "get(least, 0)", "get(greatest, 0)").is("get(1, 0)", 0)
            .is("save()", 1).is("object(false)", 2).is("get(2, 0)", 0).is("restore(1)", 1).noSuchElement("get(2, 0)");
        withLocalAndGlobal(s.run(promise, "IndexOutOfBoundsException"))
            .outOfBounds("get(0, -1)", "get(0, 8)", "get(0, least)", "get(0, greatest)", "get(1, -1)", "get(1, 8)")
            .is("get(0, 7)", 0).is("get(0, 0)", 0);
    }

    private static void bytes(Sentences s) {
        String promise = "Promise 11";
        String sentence = "A byte i (0 .. 7) becomes c (0 .. 255; -1: stays): the one before.";
        Run each = withLocalAndGlobal(s.run(promise, sentence));
        for (int object = 0; object < 2; object++) {
            for (int i = 0; i < 8; i++) {
                String head = "bytes(" + object + ", " + i + ", ";
                each.is(head + (200 + i) + ")", 0).is(head + "-1)", 200 + i).is(head + "255)", 200 + i)
                    .is(head + "-1)", 255).is(head + "0)", 255).is(head + "-1)", 0).is(head + (8 * object + i) + ")", 0);
            }
        }
        for (int object = 0; object < 2; object++) {
            for (int i = 0; i < 8; i++) {
                each.is("bytes(" + object + ", " + i + ", -1)", 8 * object + i).is("get(" + object + ", " + i + ")", 0);
            }
        }
        withLocalAndGlobal(s.run(promise, "NoSuchElementException"))
            .noSuchElement("bytes(-1, 0, 1)", "bytes(2, 0, 1)", "bytes(least, 0, 1)", "bytes(greatest, 0, -1)")
            .is("bytes(1, 0, 1)", 0).is("save()", 1).is("object(false)", 2).is("bytes(2, 0, 1)", 0)
            .is("restore(1)", 1).noSuchElement("bytes(2, 0, 1)", "bytes(2, 0, -1)");
        withLocalAndGlobal(s.run(promise, "IndexOutOfBoundsException"))
            .is("bytes(0, 0, 7)", 0).is("bytes(0, 7, 7)", 0)
            .outOfBounds("bytes(0, -1, 1)", "bytes(0, 8, 1)", "bytes(0, least, 1)", "bytes(0, greatest, 1)")
            .outOfBounds("bytes(0, -1, -1)", "bytes(0, 8, -1)")
            .outOfBounds("bytes(0, 0, -2)", "bytes(0, 0, 256)", "bytes(0, 7, least)", "bytes(0, 7, greatest)")
            .outOfBounds("bytes(1, 8, 1)", "bytes(1, 0, 256)", "bytes(1, 0, -2)", "bytes(0, 8, 256)")
            .is("bytes(0, 0, 255)", 7).is("bytes(0, 7, 0)", 7).is("bytes(0, 0, -1)", 255);
    }

    private ObjectSentences() {
    }
}
