/** Promise 1: no objects, no saves; all parameters are 0. */
public final class Promise01NewObjectTest {
    public static void main(String[] args) {
        Due due = new Due("promise 1");
        SaveRestore x = new SaveRestore();
        due.noSuchElement("get(0, 0)", () -> x.get(0, 0));
        due.noSuchElement("old(0)", () -> x.old(0));
        due.is("restore(1)", -1, () -> x.restore(1));
        due.is("restore(0)", -1, () -> x.restore(0));
        for (int what = 0; what < 10; what++) {
            int parameter = what;
            due.is("stateOf(" + what + ")", 0, () -> x.stateOf(parameter));
        }
        due.is("pop()", -1, x::pop);
        due.is("used()", 0, x::used);
        due.is("deepest()", 0, x::deepest);
        twoAreApart(due);
        due.end();
    }

    private static void twoAreApart(Due due) {
        SaveRestore one = new SaveRestore();
        one.object(false);
        one.put(0, 0, 5);
        one.save();
        one.state(0, 7);
        one.push();
        SaveRestore other = new SaveRestore();
        due.is("used() of another", 0, other::used);
        due.is("stateOf(0) of another", 0, () -> other.stateOf(0));
        due.is("object(false) of another", 0, () -> other.object(false));
        due.is("get(0, 0) of another", 0, () -> other.get(0, 0));
        due.is("save() of another", 1, other::save);
        due.is("push() of another", 1, other::push);
    }
}
