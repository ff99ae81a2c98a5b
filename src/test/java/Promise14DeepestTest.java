/** Promise 14: the greatest number of saves that lived at once. */
public final class Promise14DeepestTest {
    public static void main(String[] args) {
        Due due = new Due("promise 14");
        SaveRestore x = new SaveRestore();
        due.is("deepest() at first", 0, x::deepest);
        x.save();
        due.is("deepest()", 1, x::deepest);
        x.restore(1);
        due.is("deepest() stays", 1, x::deepest);
        x.save();
        due.is("two made, one at once", 1, x::deepest);
        x.save();
        x.save();
        due.is("deepest()", 3, x::deepest);
        x.restore(4);
        x.restore(3);
        x.save();
        due.is("deepest() stays", 3, x::deepest);
        x.restore(3);
        due.is("a restore that does nothing", 3, x::deepest);
        for (int k = 3; k <= 16; k++) {
            x.save();
        }
        due.unsupported("save(), the 17th", x::save);
        due.is("deepest() at most", 16, x::deepest);
        due.end();
    }
}
