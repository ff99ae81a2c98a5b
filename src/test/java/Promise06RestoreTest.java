/** Promise 6: what a restore undoes, what it leaves, and when nothing is done. */
public final class Promise06RestoreTest {
    public static void main(String[] args) {
        Due due = new Due("promise 6");
        refusedNumbers(due);
        refusedForKeptParameters(due);
        cells(due);
        nestedSaves(due);
        objectsBetweenSaves(due);
        bytesAndGlobalsStay(due);
        parametersAndPushed(due);
        due.end();
    }

    private static void refusedNumbers(Due due) {
        SaveRestore x = new SaveRestore();
        x.save();
        x.save();
        for (int save : new int[] {0, -1, 3, Integer.MIN_VALUE, Integer.MAX_VALUE}) {
            due.is("restore(" + save + ")", -1, () -> x.restore(save));
        }
        due.is("restore(1) while 2 lives", -3, () -> x.restore(1));
        due.is("used(), nothing was done", 12, x::used);
        due.is("restore(2)", 1, () -> x.restore(2));
        due.is("restore(2) again", -2, () -> x.restore(2));
        x.save();
        due.is("restore(2), with a later one", -2, () -> x.restore(2));
        due.is("restore(1) while 3 lives", -3, () -> x.restore(1));
        due.is("restore(3)", 1, () -> x.restore(3));
        due.is("restore(1)", 1, () -> x.restore(1));
        due.is("restore(1) again", -2, () -> x.restore(1));
    }

    private static void refusedForKeptParameters(Due due) {
        for (int kept = 8; kept <= 9; kept++) {
            int what = kept;
            SaveRestore x = new SaveRestore();
            x.object(false);
            x.save();
            x.object(false);
            x.object(true);
            x.put(0, 0, 4);
            x.state(0, 3);
            x.push();
            x.state(what, -2);
            due.is("kept refers to a newer local", -4, () -> x.restore(1));
            due.is("nothing is done: used()", 55, x::used);
            due.is("nothing is done: get(0, 0)", 4, () -> x.get(0, 0));
            due.is("nothing is done: stateOf(0)", 3, () -> x.stateOf(0));
            x.save();
            due.is("-3 is named before -4", -3, () -> x.restore(1));
            x.object(false);
            x.state(what, -4);
            due.is("-3 is named before -4, newer than both", -3, () -> x.restore(1));
            due.is("newer than the later save, too", -4, () -> x.restore(2));
            x.state(what, -2);
            due.is("not newer than the later save", 1, () -> x.restore(2));
            due.is("still -4", -4, () -> x.restore(1));
            x.state(7, -2);
            x.state(what, -3);
            due.is("a newer global does not hinder, nor what is not kept", 1, () -> x.restore(1));
            due.is("the kept one stays", -3, () -> x.stateOf(what));
            due.is("the other does not", 0, () -> x.stateOf(7));
            x.state(what, -1);
            x.save();
            due.is("a local that is not newer does not hinder", 1, () -> x.restore(3));
            due.is("it is kept, too", -1, () -> x.stateOf(what));
        }
    }

    private static void cells(Due due) {
        SaveRestore x = new SaveRestore();
        x.object(false);
        x.put(0, 0, 5);
        x.save();
        x.put(0, 0, 6);
        x.put(0, 0, 7);
        x.object(false);
        x.put(0, 1, -2);
        due.is("restore(1)", 1, () -> x.restore(1));
        due.is("get(0, 0)", 5, () -> x.get(0, 0));
        due.is("get(0, 1)", 0, () -> x.get(0, 1));
        due.noSuchElement("get(1, 0)", () -> x.get(1, 0));
        due.is("put(0, 0, 8)", 5, () -> x.put(0, 0, 8));
        due.is("restore(1) undoes only once", -2, () -> x.restore(1));
        due.is("get(0, 0)", 8, () -> x.get(0, 0));
    }

    private static void nestedSaves(Due due) {
        SaveRestore x = new SaveRestore();
        x.object(false);
        x.put(0, 0, 1);
        x.save();
        x.put(0, 0, 2);
        x.save();
        x.put(0, 0, 3);
        x.put(0, 1, 9);
        x.save();
        x.put(0, 0, 4);
        due.is("restore(3)", 1, () -> x.restore(3));
        due.is("get(0, 0)", 3, () -> x.get(0, 0));
        x.put(0, 0, 5);
        due.is("restore(2)", 1, () -> x.restore(2));
        due.is("get(0, 0)", 2, () -> x.get(0, 0));
        due.is("get(0, 1)", 0, () -> x.get(0, 1));
        x.put(0, 1, 6);
        due.is("restore(1)", 1, () -> x.restore(1));
        due.is("get(0, 0)", 1, () -> x.get(0, 0));
        due.is("get(0, 1)", 0, () -> x.get(0, 1));
    }

    private static void objectsBetweenSaves(Due due) {
        SaveRestore x = new SaveRestore();
        x.save();
        x.object(false);
        x.put(0, 0, 1);
        x.save();
        x.object(false);
        x.put(0, 0, -2);
        due.is("restore(2)", 1, () -> x.restore(2));
        due.is("get(0, 0), not newer", 1, () -> x.get(0, 0));
        due.noSuchElement("get(1, 0), newer", () -> x.get(1, 0));
        x.put(0, 0, 7);
        due.is("restore(1)", 1, () -> x.restore(1));
        due.noSuchElement("get(0, 0), newer", () -> x.get(0, 0));
        due.is("used()", 0, x::used);
    }

    private static void bytesAndGlobalsStay(Due due) {
        SaveRestore x = new SaveRestore();
        x.object(false);
        x.object(true);
        x.put(1, 0, 5);
        x.save();
        x.bytes(0, 3, 65);
        x.bytes(1, 3, 66);
        x.put(1, 0, 6);
        x.object(true);
        x.put(1, 1, -3);
        x.put(2, 0, 9);
        due.is("restore(1)", 1, () -> x.restore(1));
        due.is("bytes of a local", 65, () -> x.bytes(0, 3, -1));
        due.is("bytes of a global", 66, () -> x.bytes(1, 3, -1));
        due.is("a global's cell", 6, () -> x.get(1, 0));
        due.is("a global's reference", -3, () -> x.get(1, 1));
        due.is("a newer global", 9, () -> x.get(2, 0));
    }

    private static void parametersAndPushed(Due due) {
        SaveRestore x = new SaveRestore();
        for (int what = 0; what < 10; what++) {
            x.state(what, 10 + what);
        }
        x.push();
        for (int what = 0; what < 10; what++) {
            x.state(what, 20 + what);
        }
        x.save();
        x.push();
        for (int what = 0; what < 10; what++) {
            x.state(what, 30 + what);
        }
        x.push();
        due.is("restore(1)", 1, () -> x.restore(1));
        for (int what = 0; what < 10; what++) {
            int parameter = what;
            due.is("stateOf(" + what + ")", (what < 8 ? 20 : 30) + what, () -> x.stateOf(parameter));
        }
        due.is("used(), one pushed", 10, x::used);
        due.is("pop()", 0, x::pop);
        for (int what = 0; what < 10; what++) {
            int parameter = what;
            due.is("stateOf(" + what + ")", (what < 8 ? 10 : 30) + what, () -> x.stateOf(parameter));
        }
    }
}
