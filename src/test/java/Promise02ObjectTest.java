/** Promise 2: numbers as objects are made, never given twice; at most 200 at once. */
public final class Promise02ObjectTest {
    public static void main(String[] args) {
        Due due = new Due("promise 2");
        allIsZeroAtFirst(due);
        atMostTwoHundred(due);
        numbersAreNeverGivenTwice(due);
        goneOnesMakeRoom(due);
        due.end();
    }

    private static void allIsZeroAtFirst(Due due) {
        SaveRestore x = new SaveRestore();
        due.is("object(true)", 0, () -> x.object(true));
        due.is("object(false)", 1, () -> x.object(false));
        for (int k = 0; k < 16; k++) {
            int object = k / 8;
            int i = k % 8;
            due.is("get of a new object", 0, () -> x.get(object, i));
            due.is("bytes of a new object", 0, () -> x.bytes(object, i, -1));
        }
    }

    private static void atMostTwoHundred(Due due) {
        SaveRestore x = new SaveRestore();
        for (int k = 0; k < 200; k++) {
            boolean global = k % 3 == 0;
            due.is("object(..)", k, () -> x.object(global));
        }
        due.unsupported("object(false), the 201st", () -> x.object(false));
        due.unsupported("object(true), the 201st", () -> x.object(true));
        due.is("used()", 2400, x::used);
        due.is("get(199, 7)", 0, () -> x.get(199, 7));
        due.noSuchElement("get(200, 0)", () -> x.get(200, 0));
    }

    private static void numbersAreNeverGivenTwice(Due due) {
        SaveRestore x = new SaveRestore();
        due.is("save()", 1, x::save);
        due.is("object(false)", 0, () -> x.object(false));
        due.is("object(true)", 1, () -> x.object(true));
        due.is("object(false)", 2, () -> x.object(false));
        due.is("restore(1)", 1, () -> x.restore(1));
        due.is("object(false)", 3, () -> x.object(false));
        due.noSuchElement("get(0, 0)", () -> x.get(0, 0));
        due.noSuchElement("get(2, 0)", () -> x.get(2, 0));
        due.is("get(1, 0)", 0, () -> x.get(1, 0));
    }

    private static void goneOnesMakeRoom(Due due) {
        SaveRestore x = new SaveRestore();
        due.is("object(true)", 0, () -> x.object(true));
        due.is("save()", 1, x::save);
        for (int k = 1; k < 200; k++) {
            x.object(false);
            x.put(k, 7, k);
        }
        due.unsupported("object(false)", () -> x.object(false));
        due.is("restore(1)", 1, () -> x.restore(1));
        due.is("object(false), after the call that threw", 200, () -> x.object(false));
        due.is("get(200, 7)", 0, () -> x.get(200, 7));
        due.is("object(true)", 201, () -> x.object(true));
        due.is("used()", 36, x::used);
    }
}
