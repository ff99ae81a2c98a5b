/** Promise 12: 12 words an object, 3 a row, 6 a save that lives, 10 a pushed state. */
public final class Promise12UsedTest {
    public static void main(String[] args) {
        Due due = new Due("promise 12");
        eachKind(due);
        whichPutsKeepRows(due);
        rowsOfNestedSaves(due);
        due.end();
    }

    private static void eachKind(Due due) {
        SaveRestore x = new SaveRestore();
        x.object(false);
        due.is("a local object", 12, x::used);
        x.object(true);
        due.is("a global object", 24, x::used);
        x.push();
        due.is("a pushed state", 34, x::used);
        x.save();
        due.is("a save", 40, x::used);
        x.put(0, 0, 1);
        due.is("a row", 43, x::used);
        x.push();
        due.is("one more pushed state", 53, x::used);
        x.restore(1);
        due.is("after the restore", 34, x::used);
        x.pop();
        due.is("after the pop", 24, x::used);
    }

    private static void whichPutsKeepRows(Due due) {
        SaveRestore x = new SaveRestore();
        x.object(false);
        x.object(true);
        x.put(0, 0, 1);
        due.is("no save lives", 24, x::used);
        x.save();
        x.put(0, 0, 1);
        due.is("the same value", 33, x::used);
        x.put(0, 0, 2);
        due.is("the same cell again", 33, x::used);
        x.put(0, 7, 2);
        due.is("another cell", 36, x::used);
        x.put(1, 0, 2);
        due.is("a global object's cell", 36, x::used);
        x.object(false);
        x.put(2, 0, 2);
        due.is("a newer object's cell", 48, x::used);
        x.state(0, 3);
        x.bytes(0, 0, 3);
        x.get(0, 1);
        due.is("what is no put", 48, x::used);
        x.restore(1);
        due.is("rows go with their save", 24, x::used);
        x.put(0, 0, 4);
        due.is("none lives any more", 24, x::used);
    }

    private static void rowsOfNestedSaves(Due due) {
        SaveRestore x = new SaveRestore();
        x.object(false);
        x.save();
        x.object(false);
        x.put(0, 0, 1);
        x.put(1, 0, 1);
        due.is("one row for save 1", 33, x::used);
        x.save();
        x.put(0, 0, 2);
        x.put(1, 0, 2);
        x.put(1, 1, 2);
        due.is("three rows for save 2", 48, x::used);
        x.restore(2);
        due.is("save 1's row is left", 33, x::used);
        x.put(0, 0, 3);
        due.is("it has its row", 33, x::used);
        x.put(1, 0, 3);
        due.is("newer than save 1 again", 33, x::used);
        x.put(0, 1, 3);
        due.is("a second row for save 1", 36, x::used);
        x.restore(1);
        due.is("all rows are gone", 12, x::used);
    }
}
