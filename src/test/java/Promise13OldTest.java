/** Promise 13: how many of the saves that live were made before an object. */
public final class Promise13OldTest {
    public static void main(String[] args) {
        Due due = new Due("promise 13");
        SaveRestore x = new SaveRestore();
        x.object(false);
        x.save();
        x.object(true);
        x.save();
        x.object(false);
        x.object(true);
        x.save();
        due.is("old(0)", 0, () -> x.old(0));
        due.is("old(1)", 1, () -> x.old(1));
        due.is("old(2)", 2, () -> x.old(2));
        due.is("old(3)", 2, () -> x.old(3));
        x.restore(3);
        due.is("old(3), save 3 was behind it", 2, () -> x.old(3));
        x.restore(2);
        due.is("old(3), save 1 lives still", 1, () -> x.old(3));
        due.noSuchElement("old(2), gone", () -> x.old(2));
        x.save();
        due.is("old(3), a save behind it", 1, () -> x.old(3));
        x.object(false);
        due.is("old(4)", 2, () -> x.old(4));
        for (int object : new int[] {-1, 5, Integer.MIN_VALUE, Integer.MAX_VALUE}) {
            due.noSuchElement("old(" + object + ")", () -> x.old(object));
        }
        x.restore(4);
        x.restore(1);
        due.is("old(3), none lives", 0, () -> x.old(3));
        due.is("old(1), none lives", 0, () -> x.old(1));
        due.end();
    }
}
