/** Promise 5: saves have numbers 1, 2, ..; at most 16 live. */
public final class Promise05SaveTest {
    public static void main(String[] args) {
        Due due = new Due("promise 5");
        SaveRestore x = new SaveRestore();
        for (int k = 1; k <= 16; k++) {
            due.is("save()", k, x::save);
        }
        due.unsupported("save(), the 17th", x::save);
        due.is("used() unchanged", 96, x::used);
        due.is("restore(17), never made", -1, () -> x.restore(17));
        due.is("restore(16)", 1, () -> x.restore(16));
        due.is("save(), a new number", 17, x::save);
        due.unsupported("save()", x::save);
        due.is("restore(16), not again", -2, () -> x.restore(16));
        due.is("restore(17)", 1, () -> x.restore(17));
        for (int k = 15; k >= 1; k--) {
            int save = k;
            due.is("restore(" + k + ")", 1, () -> x.restore(save));
        }
        for (int k = 18; k < 120; k++) {
            int save = k;
            due.is("save() when none lives", k, x::save);
            due.is("restore(" + k + ")", 1, () -> x.restore(save));
        }
        due.end();
    }
}
