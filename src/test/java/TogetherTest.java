import java.util.ArrayList;
import java.util.List;

/** What one call leaves for the calls behind it: runs that go through several promises of the document at once. */
public final class TogetherTest {
    private final List<Run> runs = new ArrayList<>();

    public static void main(String[] args) {
        Due due = new Due("together");
        TogetherTest test = new TogetherTest();
        test.saveBehindPushesAndPops();
        test.restoreBehindRestore();
        test.objectsGoneAndMadeAgain();
        test.twoHundredGoneAndMadeAgain();
        test.rowsOfSavesThatAreNotTheLatest();
        test.keptOverRestoreAndPop();
        test.globalsAndBytesOverRestore();
        test.oldOverSavesAndRestores();
        test.limitsAfterRestores();
        test.refusedRestoresBetweenChanges();
        for (Run each : test.runs) {
            each.check(due);
        }
        due.end();
    }

    private Run run(String what) {
        Run run = new Run("together", what);
        runs.add(run);
        return run;
    }

    private void saveBehindPushesAndPops() {
        run("states pushed and popped before a save are not those behind it")
            .is("state(0, 1)", 0).is("push()", 1).is("state(0, 2)", 1).is("push()", 2).is("state(0, 3)", 2)
            .is("pop()", 1).is("stateOf(0)", 2).is("save()", 1).is("used()", 16).is("pop()", -1).is("stateOf(0)", 2)
            .is("push()", 1).is("state(0, 4)", 2).is("push()", 2).is("used()", 36).is("pop()", 1)
            .is("stateOf(0)", 4).is("pop()", 0).is("stateOf(0)", 2).is("pop()", -1).is("state(0, 5)", 2)
            .is("save()", 2).is("push()", 1).is("pop()", 0).is("pop()", -1).is("restore(2)", 1).is("stateOf(0)", 5)
            .is("push()", 1).is("restore(1)", 1).is("stateOf(0)", 2).is("used()", 10).is("pop()", 0)
            .is("stateOf(0)", 1).is("pop()", -1).is("used()", 0);
        run("a push behind a pop takes the place of what was popped, not of what a save stands on")
            .is("state(7, 1)", 0).is("push()", 1).is("save()", 1).is("state(7, 2)", 1).is("push()", 1)
            .is("save()", 2).is("state(7, 3)", 2).is("push()", 1).is("state(7, 4)", 3).is("pop()", 0)
            .is("state(7, 5)", 3).is("push()", 1).is("state(7, 6)", 5).is("pop()", 0).is("stateOf(7)", 5)
            .is("restore(2)", 1).is("stateOf(7)", 2).is("push()", 2).is("state(7, 7)", 2).is("pop()", 1)
            .is("pop()", 0).is("stateOf(7)", 2).is("pop()", -1).is("restore(1)", 1).is("stateOf(7)", 1)
            .is("state(7, 8)", 1).is("pop()", 0).is("stateOf(7)", 1);
        run("a pushed reference is to an object that still is there when it is popped")
            .is("object(false)", 0).is("state(3, -1)", 0).is("push()", 1).is("save()", 1).is("object(false)", 1)
            .is("state(3, -2)", -1).is("push()", 1).is("state(3, 0)", -2).is("pop()", 0).is("stateOf(3)", -2)
            .is("restore(1)", 1).is("stateOf(3)", -1).is("state(3, 0)", -1).is("pop()", 0).is("stateOf(3)", -1)
            .noSuchElement("state(3, -2)").is("get(0, 0)", 0);
    }

    private void restoreBehindRestore() {
        run("the earlier save is restored behind the later one")
            .is("object(false)", 0).is("put(0, 0, 1)", 0).is("save()", 1).is("put(0, 0, 2)", 1).is("put(0, 1, 3)", 0)
            .is("save()", 2).is("put(0, 1, 4)", 3).is("put(0, 2, 5)", 0).is("used()", 36).is("restore(2)", 1)
            .is("get(0, 0)", 2).is("get(0, 1)", 3).is("get(0, 2)", 0).is("used()", 24).is("restore(2)", -2)
            .is("restore(1)", 1).is("get(0, 0)", 1).is("get(0, 1)", 0).is("get(0, 2)", 0).is("used()", 12)
            .is("restore(1)", -2).is("restore(2)", -2).is("save()", 3).is("deepest()", 2).is("put(0, 0, 9)", 1)
            .is("used()", 21).is("restore(3)", 1).is("get(0, 0)", 1).is("used()", 12);
        run("puts, states and pushes between two restores are undone by the second")
            .is("object(false)", 0).is("state(0, 1)", 0).is("save()", 1).is("save()", 2).is("save()", 3)
            .is("put(0, 3, 1)", 0).is("state(0, 2)", 1).is("push()", 1).is("restore(3)", 1).is("put(0, 4, 2)", 0)
            .is("state(0, 3)", 1).is("push()", 1).is("used()", 37).is("restore(2)", 1).is("get(0, 3)", 0)
            .is("get(0, 4)", 0).is("stateOf(0)", 1).is("used()", 18).is("put(0, 5, 3)", 0).is("state(0, 4)", 1)
            .is("push()", 1).is("restore(1)", 1).is("get(0, 5)", 0).is("stateOf(0)", 1).is("used()", 12)
            .is("deepest()", 3).is("pop()", -1);
    }

    private void objectsGoneAndMadeAgain() {
        run("a new object has nothing of one that is gone")
            .is("save()", 1).is("object(false)", 0).is("put(0, 0, 7)", 0).is("put(0, 7, -1)", 0)
            .is("bytes(0, 0, 200)", 0).is("state(0, -1)", 0).is("restore(1)", 1).is("stateOf(0)", 0).is("used()", 0)
            .is("object(false)", 1).is("get(1, 0)", 0).is("get(1, 7)", 0).is("bytes(1, 0, -1)", 0)
            .noSuchElement("get(0, 0)", "put(1, 0, -1)", "state(0, -1)", "bytes(0, 0, -1)", "old(0)")
            .is("put(1, 0, -2)", 0).is("old(1)", 0).is("save()", 2).is("old(1)", 0).is("object(false)", 2)
            .is("old(2)", 1).is("put(1, 0, -3)", -2).is("used()", 33).is("restore(2)", 1).is("get(1, 0)", -2)
            .is("used()", 12).is("object(true)", 3).noSuchElement("put(1, 0, -3)").is("put(1, 0, -4)", -2);
        run("an object made behind one that is gone is newer than the saves before it, not than those behind it")
            .is("save()", 1).is("object(false)", 0).is("save()", 2).is("object(false)", 1).is("restore(2)", 1)
            .is("object(false)", 2).is("save()", 3).is("put(2, 0, 1)", 0).is("used()", 39).is("restore(3)", 1)
            .is("get(2, 0)", 0).is("put(2, 0, 2)", 0).is("used()", 30).is("restore(1)", 1)
            .noSuchElement("get(0, 0)", "get(1, 0)", "get(2, 0)").is("used()", 0).is("object(true)", 3);
    }

    private void twoHundredGoneAndMadeAgain() {
        Run run = run("200 objects, 199 of them gone, and as many made again").is("object(false)", 0).is("save()", 1);
        for (int k = 1; k < 200; k++) {
            run.is("object(false)", k);
        }
        run.unsupported("object(false)", "object(true)").is("put(0, 0, -200)", 0).is("restore(1)", 1)
            .is("get(0, 0)", 0).is("used()", 12);
        for (int k = 200; k < 399; k++) {
            run.is("object(true)", k);
        }
        run.unsupported("object(false)", "object(true)").is("used()", 2400).is("get(0, 0)", 0).is("get(200, 0)", 0)
            .is("get(398, 7)", 0).noSuchElement("get(1, 0)", "get(199, 0)", "get(399, 0)", "put(0, 0, -200)")
            .is("put(0, 0, -201)", 0).is("put(398, 7, -399)", 0).illegalState("put(398, 7, -1)")
            .is("get(398, 7)", -399);
    }

    private void rowsOfSavesThatAreNotTheLatest() {
        run("rows of an earlier save stay while a later one lives, and count again behind it")
            .is("object(false)", 0).is("save()", 1).is("put(0, 0, 1)", 0).is("used()", 21).is("save()", 2)
            .is("used()", 27).is("put(0, 0, 2)", 1).is("used()", 30).is("put(0, 0, 3)", 2).is("used()", 30)
            .is("put(0, 1, 4)", 0).is("used()", 33).is("restore(2)", 1).is("used()", 21).is("get(0, 0)", 1)
            .is("put(0, 0, 5)", 1).is("used()", 21).is("put(0, 1, 6)", 0).is("used()", 24).is("save()", 3)
            .is("used()", 30).is("restore(3)", 1).is("used()", 24).is("put(0, 2, 0)", 0).is("used()", 27)
            .is("restore(1)", 1).is("used()", 12).is("get(0, 0)", 0).is("get(0, 1)", 0).is("get(0, 2)", 0);
        run("a newer object has rows for the save behind it alone")
            .is("save()", 1).is("object(false)", 0).is("put(0, 0, 1)", 0).is("used()", 18).is("save()", 2)
            .is("put(0, 0, 2)", 1).is("used()", 27).is("restore(2)", 1).is("used()", 18).is("get(0, 0)", 1)
            .is("put(0, 0, 3)", 1).is("used()", 18).is("save()", 3).is("put(0, 0, 3)", 3).is("used()", 27)
            .is("restore(3)", 1).is("restore(1)", 1).is("used()", 0);
        run("a put that throws, a put behind no save and a put of a global object keep no row")
            .is("object(false)", 0).is("object(true)", 1).is("put(0, 0, 1)", 0).is("used()", 24).is("save()", 1)
            .noSuchElement("put(0, 0, -3)", "put(2, 0, 0)").outOfBounds("put(0, 8, 0)").illegalState("put(1, 0, -1)")
            .is("put(1, 0, -2)", 0).is("used()", 30).is("put(0, 0, 1)", 1).is("used()", 33).is("restore(1)", 1)
            .is("put(0, 0, 2)", 1).is("used()", 24).is("get(1, 0)", -2);
    }

    private void keptOverRestoreAndPop() {
        run("neither a pop nor a restore brings a kept parameter back")
            .is("object(false)", 0).is("state(8, -1)", 0).is("push()", 1).is("state(8, 5)", -1).is("state(9, 6)", 0)
            .is("pop()", 0).is("stateOf(8)", 5).is("stateOf(9)", 6).is("save()", 1).is("object(false)", 1)
            .is("state(8, -2)", 5).is("push()", 1).is("state(8, 7)", -2).is("pop()", 0).is("stateOf(8)", 7)
            .is("state(9, -2)", 6).is("restore(1)", -4).is("push()", 1).is("restore(1)", -4).is("pop()", 0)
            .is("restore(1)", -4).is("state(9, -1)", -2).is("restore(1)", 1).is("stateOf(9)", -1)
            .is("stateOf(8)", 7).is("used()", 12);
        run("a kept reference to a local object hinders the saves before that object alone")
            .is("save()", 1).is("object(false)", 0).is("save()", 2).is("object(true)", 1).is("state(8, -1)", 0)
            .is("state(9, -2)", 0).is("restore(2)", 1).is("restore(1)", -4).is("get(0, 0)", 0)
            .is("state(8, -2)", -1).is("restore(1)", 1).noSuchElement("state(8, -1)", "get(0, 0)")
            .is("get(1, 0)", 0).is("stateOf(8)", -2).is("stateOf(9)", -2).is("used()", 12);
        run("a save that -4 has refused still can be made to follow, and restored")
            .is("save()", 1).is("object(false)", 0).is("state(8, -1)", 0).is("restore(1)", -4).is("save()", 2)
            .is("restore(1)", -3).is("restore(2)", 1).is("restore(1)", -4).is("state(8, 0)", -1).is("restore(1)", 1)
            .is("restore(1)", -2).is("restore(2)", -2).is("restore(3)", -1).is("deepest()", 2);
    }

    private void globalsAndBytesOverRestore() {
        run("bytes, global objects and their cells stay, cells of a local object do not")
            .is("object(false)", 0).is("bytes(0, 0, 1)", 0).is("put(0, 0, 1)", 0).is("save()", 1)
            .is("bytes(0, 0, 2)", 1).is("put(0, 0, 2)", 1).is("object(true)", 1).is("object(true)", 2)
            .is("put(1, 0, -3)", 0).illegalState("put(1, 1, -1)").is("bytes(2, 7, 255)", 0).is("put(0, 1, -2)", 0)
            .is("used()", 48).is("restore(1)", 1).is("used()", 36).is("bytes(0, 0, -1)", 2).is("get(0, 0)", 1)
            .is("get(0, 1)", 0).is("get(1, 0)", -3).is("bytes(2, 7, -1)", 255).is("put(1, 0, -2)", -3)
            .is("put(0, 1, -3)", 0).is("save()", 2).is("put(0, 1, 0)", -3).is("restore(2)", 1).is("get(0, 1)", -3)
            .is("get(1, 0)", -2).is("bytes(0, 0, -1)", 2);
        run("over two restores, too")
            .is("object(true)", 0).is("object(false)", 1).is("save()", 1).is("put(0, 0, 1)", 0)
            .is("bytes(1, 3, 10)", 0).is("save()", 2).is("put(0, 0, 2)", 1).is("bytes(1, 3, 20)", 10)
            .is("restore(2)", 1).is("get(0, 0)", 2).is("bytes(1, 3, -1)", 20).is("restore(1)", 1).is("get(0, 0)", 2)
            .is("bytes(1, 3, -1)", 20).is("used()", 24);
        run("a byte changed is no row, and a newer local object's bytes go with it")
            .is("object(false)", 0).is("save()", 1).is("bytes(0, 0, 255)", 0).is("object(false)", 1)
            .is("bytes(1, 0, 9)", 0).is("used()", 30).is("restore(1)", 1).is("bytes(0, 0, 0)", 255)
            .noSuchElement("bytes(1, 0, -1)").is("object(false)", 2).is("bytes(2, 0, -1)", 0).is("used()", 24);
    }

    private void oldOverSavesAndRestores() {
        run("old counts the saves that still live")
            .is("save()", 1).is("object(true)", 0).is("old(0)", 1).is("save()", 2).is("old(0)", 1)
            .is("object(true)", 1).is("object(false)", 2).is("old(1)", 2).is("old(2)", 2).is("restore(2)", 1)
            .is("old(1)", 1).noSuchElement("old(2)").is("save()", 3).is("old(1)", 1).is("old(0)", 1)
            .is("object(false)", 3).is("old(3)", 2).is("restore(3)", 1).is("restore(1)", 1).is("old(0)", 0)
            .is("old(1)", 0).is("save()", 4).is("old(1)", 0).is("object(false)", 4).is("old(4)", 1);
    }

    private void limitsAfterRestores() {
        Run saves = run("a restored save makes room for another, and the deepest stays");
        for (int k = 1; k <= 16; k++) {
            saves.is("save()", k).is("deepest()", k);
        }
        saves.unsupported("save()").is("restore(16)", 1).is("deepest()", 16).is("save()", 17).unsupported("save()")
            .is("restore(16)", -2).is("restore(15)", -3).is("restore(17)", 1).is("restore(15)", 1).is("save()", 18)
            .is("restore(18)", 1).is("restore(14)", 1).is("used()", 78).is("deepest()", 16).is("object(false)", 0)
            .is("old(0)", 13);
        Run states = run("30 states in all, whatever saves stand between them");
        for (int k = 1; k <= 29; k++) {
            states.is("push()", k);
        }
        states.is("save()", 1).is("push()", 1).unsupported("push()").is("save()", 2).unsupported("push()")
            .is("pop()", -1).is("restore(2)", 1).is("pop()", 0).is("pop()", -1).is("push()", 1).is("restore(1)", 1)
            .is("used()", 290).is("push()", 30).unsupported("push()").is("pop()", 29).is("pop()", 28)
            .is("used()", 280);
    }

    private void refusedRestoresBetweenChanges() {
        run("a restore that is refused leaves all for the one that is not")
            .is("object(false)", 0).is("state(1, -1)", 0).is("save()", 1).is("put(0, 0, 1)", 0).is("restore(2)", -1)
            .is("push()", 1).is("save()", 2).is("restore(1)", -3).is("put(0, 0, 2)", 1).is("object(false)", 1)
            .is("put(0, 1, -2)", 0).is("state(9, -2)", 0).is("state(1, -2)", -1).is("restore(2)", -4)
            .is("restore(1)", -3).is("used()", 55).is("get(0, 0)", 2).is("get(0, 1)", -2).is("stateOf(1)", -2)
            .is("state(9, 1)", -2).is("restore(2)", 1).is("used()", 31).is("get(0, 0)", 1).is("get(0, 1)", 0)
            .is("stateOf(1)", -1).is("restore(2)", -2).is("pop()", 0).is("restore(1)", 1).is("used()", 12)
            .is("get(0, 0)", 0).is("stateOf(1)", -1).is("stateOf(9)", 1);
    }
}
