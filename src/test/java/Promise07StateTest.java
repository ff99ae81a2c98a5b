/** Promise 7: a parameter gets a value, the one before is answered. */
public final class Promise07StateTest {
    public static void main(String[] args) {
        Due due = new Due("promise 7");
        SaveRestore x = new SaveRestore();
        x.object(false);
        x.object(true);
        for (int what = 0; what < 10; what++) {
            int parameter = what;
            due.is("state, first", 0, () -> x.state(parameter, 100 + parameter));
        }
        for (int what = 0; what < 10; what++) {
            int parameter = what;
            due.is("state, to a local", 100 + what, () -> x.state(parameter, -1));
            due.is("state, to a global", -1, () -> x.state(parameter, -2));
            due.is("state, greatest", -2, () -> x.state(parameter, Integer.MAX_VALUE));
        }
        for (int what : new int[] {-1, 10, Integer.MIN_VALUE, Integer.MAX_VALUE}) {
            due.outOfBounds("state(" + what + ", 0)", () -> x.state(what, 0));
            due.outOfBounds("state(" + what + ", -1)", () -> x.state(what, -1));
            due.noSuchElement("state(" + what + ", -3)", () -> x.state(what, -3));
        }
        due.noSuchElement("state(0, -3)", () -> x.state(0, -3));
        due.noSuchElement("state(9, least)", () -> x.state(9, Integer.MIN_VALUE));
        due.is("stateOf(0) unchanged", Integer.MAX_VALUE, () -> x.stateOf(0));
        due.is("stateOf(9) unchanged", Integer.MAX_VALUE, () -> x.stateOf(9));
        x.save();
        x.object(false);
        due.is("state(0, -3), now there", Integer.MAX_VALUE, () -> x.state(0, -3));
        x.restore(1);
        due.noSuchElement("state(0, -3), gone", () -> x.state(0, -3));
        due.is("used(), no words for parameters", 24, x::used);
        due.end();
    }
}
