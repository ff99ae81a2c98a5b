import java.util.function.IntSupplier;

/** Compares answers with those that are due, prints each that differs, and ends the test. */
final class Due {
    private final String test;
    private int calls = 0;
    private int wrong = 0;

    Due(String test) {
        this.test = test;
    }

    /** A call's answer as text: the number, or throws. and the exception's name. */
    static String answerOf(IntSupplier call) {
        try {
            return Integer.toString(call.getAsInt());
        } catch (RuntimeException e) {
            return "throws." + e.getClass().getSimpleName();
        }
    }

    void is(String name, int want, IntSupplier call) {
        same(name, Integer.toString(want), answerOf(call));
    }

    void noSuchElement(String name, IntSupplier call) {
        same(name, "throws.NoSuchElementException", answerOf(call));
    }

    void outOfBounds(String name, IntSupplier call) {
        same(name, "throws.IndexOutOfBoundsException", answerOf(call));
    }

    void illegalState(String name, IntSupplier call) {
        same(name, "throws.IllegalStateException", answerOf(call));
    }

    void unsupported(String name, IntSupplier call) {
        same(name, "throws.UnsupportedOperationException", answerOf(call));
    }

    void same(String name, String want, String got) {
        calls++;
        if (!want.equals(got)) {
            wrong++;
            System.out.println(test + ": " + name + " answered " + got + ", due is " + want);
        }
    }

    void end() {
        System.out.println(test + ": " + calls + " answers, " + wrong + " wrong");
        if (wrong != 0 || calls == 0) {
            System.exit(1);
        }
    }
}
