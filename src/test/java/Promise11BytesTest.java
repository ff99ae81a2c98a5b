/** Promise 11: a byte becomes c, or stays for -1; the one before is answered. */
public final class Promise11BytesTest {
    public static void main(String[] args) {
        Due due = new Due("promise 11");
        SaveRestore x = new SaveRestore();
        x.object(false);
        x.object(true);
        x.save();
        for (int k = 0; k < 16; k++) {
            int object = k / 8;
            int i = k % 8;
            due.is("bytes, first", 0, () -> x.bytes(object, i, 255));
            due.is("bytes, stays", 255, () -> x.bytes(object, i, -1));
            due.is("bytes, to 0", 255, () -> x.bytes(object, i, 0));
            due.is("bytes, to its own", 0, () -> x.bytes(object, i, 16 * object + i));
        }
        for (int k = 0; k < 16; k++) {
            int object = k / 8;
            int i = k % 8;
            due.is("bytes, each its own", 16 * object + i, () -> x.bytes(object, i, -1));
            due.is("a cell is no byte", 0, () -> x.get(object, i));
        }
        due.is("used(), no rows for bytes", 30, x::used);
        wrongInputs(due, x);
        due.end();
    }

    private static void wrongInputs(Due due, SaveRestore x) {
        for (int c : new int[] {-2, 256, Integer.MIN_VALUE, Integer.MAX_VALUE}) {
            due.outOfBounds("bytes(1, 3, " + c + ")", () -> x.bytes(1, 3, c));
            due.noSuchElement("bytes(2, 3, " + c + ")", () -> x.bytes(2, 3, c));
        }
        for (int i : new int[] {-1, 8, Integer.MIN_VALUE, Integer.MAX_VALUE}) {
            due.outOfBounds("bytes(1, " + i + ", 7)", () -> x.bytes(1, i, 7));
            due.outOfBounds("bytes(1, " + i + ", -1)", () -> x.bytes(1, i, -1));
            due.noSuchElement("bytes(2, " + i + ", 7)", () -> x.bytes(2, i, 7));
        }
        for (int object : new int[] {-1, 2, Integer.MIN_VALUE, Integer.MAX_VALUE}) {
            due.noSuchElement("bytes(" + object + ", 0, 7)", () -> x.bytes(object, 0, 7));
        }
        due.is("bytes(1, 3, -1) unchanged", 19, () -> x.bytes(1, 3, -1));
    }
}
