/** Promise 3: a cell gets a value, the one before is answered; what throws, in which order, and changes nothing. */
public final class Promise03PutTest {
    private static final int LOCAL = 0;
    private static final int GLOBAL = 1;
    private static final int TO_LOCAL = -1;
    private static final int TO_GLOBAL = -2;
    private static final int TO_NONE = -3;

    public static void main(String[] args) {
        Due due = new Due("promise 3");
        valuesBefore(due);
        references(due);
        wrongInputs(due);
        goneObjects(due);
        due.end();
    }

    private static SaveRestore withLocalAndGlobal() {
        SaveRestore x = new SaveRestore();
        x.object(false);
        x.object(true);
        return x;
    }

    private static void valuesBefore(Due due) {
        SaveRestore x = withLocalAndGlobal();
        for (int object = LOCAL; object <= GLOBAL; object++) {
            for (int i = 0; i < 8; i++) {
                int o = object;
                int cell = i;
                due.is("put, first", 0, () -> x.put(o, cell, 10 * o + cell));
                due.is("put, second", 10 * o + cell, () -> x.put(o, cell, Integer.MAX_VALUE));
                due.is("put, third", Integer.MAX_VALUE, () -> x.put(o, cell, 0));
            }
        }
    }

    private static void references(Due due) {
        SaveRestore x = withLocalAndGlobal();
        due.is("local to local", 0, () -> x.put(LOCAL, 0, TO_LOCAL));
        due.is("local to global", TO_LOCAL, () -> x.put(LOCAL, 0, TO_GLOBAL));
        due.is("global to global", 0, () -> x.put(GLOBAL, 0, TO_GLOBAL));
        due.illegalState("global to local", () -> x.put(GLOBAL, 0, TO_LOCAL));
        due.is("global keeps its value", TO_GLOBAL, () -> x.get(GLOBAL, 0));
        due.is("global to number", TO_GLOBAL, () -> x.put(GLOBAL, 0, 3));
    }

    private static void wrongInputs(Due due) {
        SaveRestore x = withLocalAndGlobal();
        x.save();
        for (int object : new int[] {-1, 2, Integer.MIN_VALUE, Integer.MAX_VALUE}) {
            due.noSuchElement("put(" + object + ", 0, 1)", () -> x.put(object, 0, 1));
            due.noSuchElement("put(" + object + ", 8, 1)", () -> x.put(object, 8, 1));
        }
        for (int i : new int[] {-1, 8, Integer.MIN_VALUE, Integer.MAX_VALUE}) {
            due.outOfBounds("put(0, " + i + ", 1)", () -> x.put(LOCAL, i, 1));
            due.noSuchElement("put(0, " + i + ", to none)", () -> x.put(LOCAL, i, TO_NONE));
            due.outOfBounds("put(1, " + i + ", to local)", () -> x.put(GLOBAL, i, TO_LOCAL));
        }
        due.noSuchElement("put(0, 0, to none)", () -> x.put(LOCAL, 0, TO_NONE));
        due.noSuchElement("put(1, 0, to none)", () -> x.put(GLOBAL, 0, TO_NONE));
        due.noSuchElement("put(0, 0, least)", () -> x.put(LOCAL, 0, Integer.MIN_VALUE));
        due.is("get(0, 0) unchanged", 0, () -> x.get(LOCAL, 0));
        due.is("used() unchanged", 30, x::used);
    }

    private static void goneObjects(Due due) {
        SaveRestore x = withLocalAndGlobal();
        x.save();
        x.object(false);
        due.is("to one that is there", 0, () -> x.put(LOCAL, 0, TO_NONE));
        x.restore(1);
        due.noSuchElement("to one that is gone", () -> x.put(LOCAL, 0, TO_NONE));
        due.noSuchElement("global to one that is gone", () -> x.put(GLOBAL, 0, TO_NONE));
        due.noSuchElement("into one that is gone", () -> x.put(2, 0, 1));
    }
}
