/** The ten parameters, and the states that are pushed and popped. */
final class StateSentences {
    static void all(Sentences s) {
        tenParameters(s);
        allAreZero(s);
        state(s);
        stateOf(s);
        push(s);
        thirty(s);
        pop(s);
        nothingToPop(s);
    }

    private static void tenParameters(Sentences s) {
        Run run = s.run("Terms", "THE STATE is ten PARAMETERS 0 .. 9, likewise numbers or references, 0 at first")
            .is("object(false)", 0).is("object(true)", 1);
        for (int what = 0; what < 10; what++) {
            String head = "state(" + what + ", ";
            run.is(head + "greatest)", 0).is(head + "-1)", Integer.MAX_VALUE).is(head + "-2)", -1)
                .noSuchElement(head + "-3)", head + "least)").is(head + "0)", -2).is(head + what + ")", 0);
        }
        run.outOfBounds("state(10, 0)", "stateOf(10)", "state(-1, 0)", "stateOf(-1)");
    }

    private static void allAreZero(Sentences s) {
        s.run("Promise 1", "No objects, no saves")
            .is("used()", 0).is("deepest()", 0).noSuchElement("get(0, 0)", "put(0, 0, 0)", "bytes(0, 0, -1)", "old(0)")
            .noSuchElement("state(0, -1)").is("restore(0)", -1).is("restore(1)", -1).is("pop()", -1).is("push()", 1)
            .is("object(false)", 0).is("save()", 1);
        Run run = s.run("Promise 1", "all parameters are 0.");
        for (int what = 0; what < 10; what++) {
            run.is("stateOf(" + what + ")", 0);
        }
        for (int what = 0; what < 10; what++) {
            run.is("state(" + what + ", 1)", 0);
        }
    }

    private static void state(Sentences s) {
        String promise = "Promise 7";
        Run each = s.run(promise, "A parameter what (0 .. 9) gets a value: the one before.");
        for (int what = 0; what < 10; what++) {
            each.is("state(" + what + ", " + (what + 1) + ")", 0);
        }
        for (int what = 0; what < 10; what++) {
            each.is("state(" + what + ", 99)", what + 1).is("stateOf(" + what + ")", 99);
        }
        s.run(promise, "NoSuchElementException")
            .noSuchElement("state(0, -1)", "state(9, -1)", "state(0, least)", "state(9, least)")
            .is("object(true)", 0).is("state(0, -1)", 0).is("state(9, -1)", 0).noSuchElement("state(0, -2)", "state(9, -2)")
            .is("stateOf(0)", -1).is("stateOf(9)", -1).is("save()", 1).is("object(false)", 1).is("state(0, -2)", -1)
            .is("restore(1)", 1).is("stateOf(0)", -1).noSuchElement("state(0, -2)");
        s.run(promise, "IndexOutOfBoundsException.")
            .is("object(false)", 0).is("state(0, 1)", 0).is("state(9, 2)", 0)
            .outOfBounds("state(-1, 3)", "state(10, 3)", "state(least, 3)", "state(greatest, 3)")
            .outOfBounds("state(-1, -1)", "state(10, -1)", "state(10, greatest)", "state(10, 0)")
            .is("stateOf(0)", 1).is("stateOf(9)", 2);
    }

    private static void stateOf(Sentences s) {
        s.run("Promise 8", "The value of a parameter.")
            .is("object(false)", 0).is("state(0, 5)", 0).is("state(7, -1)", 0).is("state(8, greatest)", 0)
            .is("state(9, 6)", 0).is("stateOf(0)", 5).is("stateOf(1)", 0).is("stateOf(6)", 0).is("stateOf(7)", -1)
            .is("stateOf(8)", Integer.MAX_VALUE).is("stateOf(9)", 6).is("stateOf(0)", 5);
        s.run("Promise 8", "IndexOutOfBoundsException.")
            .outOfBounds("stateOf(-1)", "stateOf(10)", "stateOf(least)", "stateOf(greatest)")
            .is("stateOf(0)", 0).is("stateOf(9)", 0);
    }

    private static Run setAll(Run run, int before, int keptBefore, int base) {
        for (int what = 0; what < 10; what++) {
            run.is("state(" + what + ", " + (base + what) + ")", (what < 8 ? before : keptBefore) + what);
        }
        return run;
    }

    private static Run areAll(Run run, int base, int keptBase) {
        for (int what = 0; what < 10; what++) {
            run.is("stateOf(" + what + ")", (what < 8 ? base : keptBase) + what);
        }
        return run;
    }

    private static void push(Sentences s) {
        String promise = "Promise 9";
        Run pushed = s.run(promise, "The parameters 0 .. 7 are PUSHED");
        for (int what = 0; what < 10; what++) {
            pushed.is("state(" + what + ", " + (10 + what) + ")", 0);
        }
        areAll(pushed.is("push()", 1), 10, 10);
        areAll(setAll(pushed, 10, 10, 20).is("pop()", 0), 10, 20);
        s.run(promise, "how many states were pushed behind the latest save that lives (and not popped).")
            .is("push()", 1).is("push()", 2).is("pop()", 1).is("push()", 2).is("save()", 1).is("push()", 1)
            .is("push()", 2).is("pop()", 1).is("pop()", 0).is("pop()", -1).is("push()", 1).is("save()", 2)
            .is("push()", 1).is("restore(2)", 1).is("push()", 2).is("save()", 3).is("restore(3)", 1).is("push()", 3)
            .is("restore(1)", 1).is("push()", 3);
    }

    private static void thirty(Sentences s) {
        String sentence = "UnsupportedOperationException when there are 30 in all.";
        Run run = s.run("Promise 9", sentence);
        for (int k = 1; k <= 30; k++) {
            run.is("state(0, " + k + ")", k - 1).is("push()", k);
        }
        run.is("state(0, 99)", 30).unsupported("push()", "push()").is("used()", 300).is("pop()", 29)
            .is("stateOf(0)", 30).is("push()", 30).unsupported("push()");
        for (int k = 29; k >= 0; k--) {
            run.is("pop()", k).is("stateOf(0)", k == 29 ? 30 : k + 1);
        }
        run.is("pop()", -1).is("used()", 0);
        // In all: those before a save count, too.
        Run behindSaves = s.run("Promise 9", sentence);
        for (int save = 1; save <= 15; save++) {
            behindSaves.is("push()", 1).is("push()", 2).is("save()", save);
        }
        behindSaves.unsupported("push()").is("pop()", -1).is("used()", 390).is("restore(15)", 1).unsupported("push()")
            .is("pop()", 1).is("push()", 2).unsupported("push()").is("restore(14)", 1).is("push()", 3).is("push()", 4)
            .unsupported("push()").is("save()", 16).unsupported("push()").is("pop()", -1);
    }

    private static void pop(Sentences s) {
        String promise = "Promise 10";
        Run run = s.run(promise, "The parameters 0 .. 7 become those that were pushed last, which go");
        for (int what = 0; what < 10; what++) {
            run.is("state(" + what + ", " + (10 + what) + ")", 0);
        }
        setAll(run.is("push()", 1), 10, 10, 20);
        setAll(run.is("push()", 2), 20, 20, 30);
        areAll(run.is("used()", 20).is("pop()", 1).is("used()", 10), 20, 30);
        areAll(setAll(run, 20, 30, 40).is("pop()", 0).is("used()", 0), 10, 40);
        areAll(run.is("pop()", -1), 10, 40);
        s.run(promise, "how many are pushed still behind the latest save that lives")
            .is("push()", 1).is("push()", 2).is("push()", 3).is("pop()", 2).is("save()", 1).is("push()", 1)
            .is("push()", 2).is("pop()", 1).is("save()", 2).is("push()", 1).is("pop()", 0).is("restore(2)", 1)
            .is("pop()", 0).is("pop()", -1).is("restore(1)", 1).is("pop()", 1).is("pop()", 0).is("pop()", -1);
    }

    private static void nothingToPop(Sentences s) {
        String sentence = "-1, and nothing is done, when there is none of these.";
        s.run("Promise 10", sentence)
            .is("pop()", -1).is("state(0, 1)", 0).is("pop()", -1).is("stateOf(0)", 1).is("push()", 1).is("pop()", 0)
            .is("state(0, 2)", 1).is("pop()", -1).is("stateOf(0)", 2).is("used()", 0);
        s.run("Promise 10", sentence)
            .is("state(0, 1)", 0).is("push()", 1).is("save()", 1).is("state(0, 2)", 1).is("pop()", -1)
            .is("stateOf(0)", 2).is("used()", 16).is("push()", 1).is("save()", 2).is("state(0, 3)", 2).is("pop()", -1)
            .is("stateOf(0)", 3).is("restore(2)", 1).is("pop()", 0).is("pop()", -1).is("stateOf(0)", 2)
            .is("restore(1)", 1).is("pop()", 0).is("stateOf(0)", 1).is("pop()", -1);
        Run full = s.run("Promise 10", sentence);
        for (int k = 1; k <= 30; k++) {
            full.is("push()", k);
        }
        full.is("save()", 1).is("pop()", -1).is("used()", 306).is("restore(1)", 1).is("pop()", 29);
    }

    private StateSentences() {
    }
}
