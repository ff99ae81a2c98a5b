/** Promise 8: the value of a parameter. */
public final class Promise08StateOfTest {
    public static void main(String[] args) {
        Due due = new Due("promise 8");
        SaveRestore x = new SaveRestore();
        x.object(false);
        x.state(0, 4);
        x.state(7, -1);
        x.state(9, 6);
        due.is("stateOf(0)", 4, () -> x.stateOf(0));
        due.is("stateOf(0) again", 4, () -> x.stateOf(0));
        due.is("stateOf(1)", 0, () -> x.stateOf(1));
        due.is("stateOf(7)", -1, () -> x.stateOf(7));
        due.is("stateOf(8)", 0, () -> x.stateOf(8));
        due.is("stateOf(9)", 6, () -> x.stateOf(9));
        for (int what : new int[] {-1, 10, Integer.MIN_VALUE, Integer.MAX_VALUE}) {
            due.outOfBounds("stateOf(" + what + ")", () -> x.stateOf(what));
        }
        due.end();
    }
}
