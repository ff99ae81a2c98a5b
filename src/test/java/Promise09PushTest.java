/** Promise 9: push answers how many are pushed behind the latest save that lives; at most 30 in all. */
public final class Promise09PushTest {
    public static void main(String[] args) {
        Due due = new Due("promise 9");
        countsBehindTheLatestSave(due);
        atMostThirtyInAll(due);
        theStateStays(due);
        due.end();
    }

    private static void countsBehindTheLatestSave(Due due) {
        SaveRestore x = new SaveRestore();
        due.is("push()", 1, x::push);
        due.is("push()", 2, x::push);
        x.save();
        due.is("push() behind save 1", 1, x::push);
        x.save();
        due.is("push() behind save 2", 1, x::push);
        due.is("push() behind save 2", 2, x::push);
        due.is("pop()", 1, x::pop);
        due.is("push() behind save 2", 2, x::push);
        x.restore(2);
        due.is("push() behind save 1", 2, x::push);
        x.restore(1);
        due.is("push(), no save lives", 3, x::push);
    }

    private static void atMostThirtyInAll(Due due) {
        SaveRestore x = new SaveRestore();
        for (int k = 1; k <= 20; k++) {
            due.is("push()", k, x::push);
        }
        x.save();
        for (int k = 1; k <= 10; k++) {
            due.is("push() behind the save", k, x::push);
        }
        due.unsupported("push(), the 31st", x::push);
        due.is("used() unchanged", 306, x::used);
        due.is("pop()", 9, x::pop);
        due.is("push()", 10, x::push);
        due.unsupported("push()", x::push);
        x.restore(1);
        due.is("push()", 21, x::push);
    }

    private static void theStateStays(Due due) {
        SaveRestore x = new SaveRestore();
        for (int what = 0; what < 10; what++) {
            x.state(what, what + 1);
        }
        x.push();
        for (int what = 0; what < 10; what++) {
            int parameter = what;
            due.is("stateOf(" + what + ")", what + 1, () -> x.stateOf(parameter));
        }
    }
}
