/** Promise 4: the value of a cell. */
public final class Promise04GetTest {
    public static void main(String[] args) {
        Due due = new Due("promise 4");
        SaveRestore x = new SaveRestore();
        x.object(false);
        x.object(true);
        x.put(0, 0, 5);
        x.put(0, 7, -2);
        x.put(1, 7, 9);
        due.is("get(0, 0)", 5, () -> x.get(0, 0));
        due.is("get(0, 0) again", 5, () -> x.get(0, 0));
        due.is("get(0, 1)", 0, () -> x.get(0, 1));
        due.is("get(0, 7)", -2, () -> x.get(0, 7));
        due.is("get(1, 7)", 9, () -> x.get(1, 7));
        due.is("get(1, 0)", 0, () -> x.get(1, 0));
        for (int i : new int[] {-1, 8, Integer.MIN_VALUE, Integer.MAX_VALUE}) {
            due.outOfBounds("get(0, " + i + ")", () -> x.get(0, i));
            due.noSuchElement("get(2, " + i + ")", () -> x.get(2, i));
        }
        for (int object : new int[] {-1, 2, Integer.MIN_VALUE, Integer.MAX_VALUE}) {
            due.noSuchElement("get(" + object + ", 0)", () -> x.get(object, 0));
        }
        due.end();
    }
}
