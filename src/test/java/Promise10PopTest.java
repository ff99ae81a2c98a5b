/** Promise 10: the parameters 0 .. 7 become those that were pushed last behind the latest save that lives. */
public final class Promise10PopTest {
    public static void main(String[] args) {
        Due due = new Due("promise 10");
        lastPushedFirst(due);
        onlyBehindTheLatestSave(due);
        due.end();
    }

    private static void setAll(SaveRestore x, int base) {
        for (int what = 0; what < 10; what++) {
            x.state(what, base + what);
        }
    }

    private static void areAll(Due due, SaveRestore x, int base, int keptBase) {
        for (int what = 0; what < 10; what++) {
            int parameter = what;
            int want = (what < 8 ? base : keptBase) + what;
            due.is("stateOf(" + what + ")", want, () -> x.stateOf(parameter));
        }
    }

    private static void lastPushedFirst(Due due) {
        SaveRestore x = new SaveRestore();
        due.is("pop() of none", -1, x::pop);
        setAll(x, 10);
        x.push();
        setAll(x, 20);
        x.push();
        setAll(x, 30);
        due.is("pop()", 1, x::pop);
        areAll(due, x, 20, 30);
        due.is("used()", 10, x::used);
        due.is("pop()", 0, x::pop);
        areAll(due, x, 10, 30);
        setAll(x, 40);
        due.is("pop() of none", -1, x::pop);
        areAll(due, x, 40, 40);
        due.is("used()", 0, x::used);
    }

    private static void onlyBehindTheLatestSave(Due due) {
        SaveRestore x = new SaveRestore();
        setAll(x, 10);
        x.push();
        setAll(x, 20);
        x.save();
        setAll(x, 30);
        due.is("pop(), pushed before the save", -1, x::pop);
        areAll(due, x, 30, 30);
        x.push();
        x.push();
        x.save();
        due.is("pop(), pushed before save 2", -1, x::pop);
        x.restore(2);
        setAll(x, 40);
        due.is("pop() behind save 1", 1, x::pop);
        areAll(due, x, 30, 40);
        due.is("pop() behind save 1", 0, x::pop);
        due.is("pop() behind save 1", -1, x::pop);
        x.restore(1);
        areAll(due, x, 20, 40);
        due.is("pop(), no save lives", 0, x::pop);
        areAll(due, x, 10, 40);
    }
}
