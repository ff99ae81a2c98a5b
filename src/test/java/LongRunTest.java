import java.util.Random;
import java.util.Set;

/** Behind the 512th call answers are free, yet no call may throw what the face does not name for it. */
public final class LongRunTest {
    private static final Set<String> NONE = Set.of();
    private static final Set<String> FULL = Set.of("throws.UnsupportedOperationException");
    private static final Set<String> MISSING = Set.of("throws.NoSuchElementException");
    private static final Set<String> BOUNDS = Set.of("throws.IndexOutOfBoundsException");
    private static final Set<String> MISSING_OR_BOUNDS =
        Set.of("throws.NoSuchElementException", "throws.IndexOutOfBoundsException");
    private static final Set<String> OF_PUT =
        Set.of("throws.NoSuchElementException", "throws.IndexOutOfBoundsException", "throws.IllegalStateException");

    public static void main(String[] args) {
        Due due = new Due("long runs");
        for (int seed = 0; seed < 20; seed++) {
            oneRun(due, new Random(seed));
        }
        due.end();
    }

    private static void oneRun(Due due, Random random) {
        SaveRestore x = new SaveRestore();
        int made = 0;
        int saved = 0;
        for (int k = 0; k < 20_000; k++) {
            int object = made + 1 - random.nextInt(300);
            int i = random.nextInt(12) - 1;
            int v = random.nextInt(4) == 0 ? -1 - object : random.nextInt(300) - 20;
            int save = saved + 1 - random.nextInt(20);
            boolean global = random.nextInt(2000) == 0;
            named(due, "put", OF_PUT, Due.answerOf(() -> x.put(object, i, v)));
            named(due, "get", MISSING_OR_BOUNDS, Due.answerOf(() -> x.get(object, i)));
            named(due, "state", MISSING_OR_BOUNDS, Due.answerOf(() -> x.state(i, v)));
            named(due, "stateOf", BOUNDS, Due.answerOf(() -> x.stateOf(i)));
            named(due, "bytes", MISSING_OR_BOUNDS, Due.answerOf(() -> x.bytes(object, i, v)));
            named(due, "old", MISSING, Due.answerOf(() -> x.old(object)));
            if (v % 7 == 0) {
                String answer = Due.answerOf(x::save);
                named(due, "save", FULL, answer);
                saved += answer.startsWith("throws.") ? 0 : 1;
                // Only behind a save: a local object that is older than all saves would never make room again.
                for (int n = 0; n < 5; n++) {
                    answer = Due.answerOf(() -> x.object(global));
                    named(due, "object", FULL, answer);
                    made += answer.startsWith("throws.") ? 0 : 1;
                }
                named(due, "push", FULL, Due.answerOf(x::push));
            }
            named(due, "restore", NONE, Due.answerOf(() -> x.restore(save)));
            named(due, "pop", NONE, Due.answerOf(x::pop));
            named(due, "used", NONE, Due.answerOf(x::used));
            named(due, "deepest", NONE, Due.answerOf(x::deepest));
        }
    }

    private static void named(Due due, String method, Set<String> allowed, String answer) {
        boolean fits = !answer.startsWith("throws.") || allowed.contains(answer);
        due.same(method, fits ? answer : "a number or one of " + allowed, answer);
    }
}
