import java.util.Random;
import java.util.TreeMap;
import java.util.function.IntSupplier;

/** Runs of 512 calls whose every answer is compared with the model's; the seeds are fixed, so each run is the same. */
public final class RandomRunsTest {
    private static final int RUNS = 1500;
    private static final int CALLS = 512;
    /** Every way a call can end that is not plain success; a run that never meets one would prove nothing of it. */
    private static final String[] MUST_OCCUR = {
        "object throws.UnsupportedOperationException",
        "put throws.NoSuchElementException", "put throws.IndexOutOfBoundsException", "put throws.IllegalStateException",
        "get throws.NoSuchElementException", "get throws.IndexOutOfBoundsException",
        "save throws.UnsupportedOperationException",
        "restore 1", "restore -1", "restore -2", "restore -3", "restore -4",
        "state throws.NoSuchElementException", "state throws.IndexOutOfBoundsException",
        "stateOf throws.IndexOutOfBoundsException",
        "push throws.UnsupportedOperationException", "pop -1", "pop 0", "pop 1",
        "bytes throws.NoSuchElementException", "bytes throws.IndexOutOfBoundsException",
        "old throws.NoSuchElementException", "old 0", "old 2",
    };

    private final Due due = new Due("random runs");
    private final TreeMap<String, Integer> seen = new TreeMap<>();
    private SaveRestore real;
    private SnapshotModel model;
    private Random random;
    private int run;
    /** How often, in a hundred calls, an object or a save or a push is made: runs differ, so that each limit is met. */
    private int objectShare;
    private int saveShare;
    private int restoreShare;
    private int pushShare;

    public static void main(String[] args) {
        RandomRunsTest test = new RandomRunsTest();
        for (int run = 0; run < RUNS; run++) {
            test.oneRun(run);
        }
        for (String each : MUST_OCCUR) {
            test.due.same("has occurred: " + each, "true", Boolean.toString(test.seen.containsKey(each)));
        }
        test.due.end();
    }

    private void oneRun(int number) {
        run = number;
        random = new Random(number);
        real = new SaveRestore();
        model = new SnapshotModel();
        objectShare = 2 + random.nextInt(number % 3 == 0 ? 70 : 12);
        saveShare = 1 + random.nextInt(12);
        restoreShare = 1 + random.nextInt(10);
        pushShare = 1 + random.nextInt(12);
        for (int k = 0; k < CALLS; k++) {
            oneCall();
        }
    }

    private void oneCall() {
        int dice = random.nextInt(100);
        if ((dice -= objectShare) < 0) {
            boolean global = random.nextInt(3) == 0;
            compare("object", "(" + global + ")", () -> real.object(global), () -> model.object(global));
        } else if ((dice -= saveShare) < 0) {
            compare("save", "()", real::save, model::save);
        } else if ((dice -= restoreShare) < 0) {
            int save = someSave();
            compare("restore", "(" + save + ")", () -> real.restore(save), () -> model.restore(save));
        } else if ((dice -= pushShare) < 0) {
            compare("push", "()", real::push, model::push);
        } else {
            oneOfTheOthers();
        }
    }

    private void oneOfTheOthers() {
        int object = someObject();
        int i = someIndex(8);
        int what = someIndex(10);
        int v = someValue();
        switch (random.nextInt(14)) {
            case 0: case 1: case 2: case 3:
                compare("put", "(" + object + ", " + i + ", " + v + ")",
                    () -> real.put(object, i, v), () -> model.put(object, i, v));
                break;
            case 4: case 5:
                compare("get", "(" + object + ", " + i + ")", () -> real.get(object, i), () -> model.get(object, i));
                break;
            case 6: case 7:
                compare("state", "(" + what + ", " + v + ")", () -> real.state(what, v), () -> model.state(what, v));
                break;
            case 8:
                compare("stateOf", "(" + what + ")", () -> real.stateOf(what), () -> model.stateOf(what));
                break;
            case 9:
                compare("pop", "()", real::pop, model::pop);
                break;
            case 10:
                int c = someByte();
                compare("bytes", "(" + object + ", " + i + ", " + c + ")",
                    () -> real.bytes(object, i, c), () -> model.bytes(object, i, c));
                break;
            case 11:
                compare("old", "(" + object + ")", () -> real.old(object), () -> model.old(object));
                break;
            case 12:
                compare("deepest", "()", real::deepest, model::deepest);
                break;
            default:
                compare("used", "()", real::used, model::used);
                break;
        }
    }

    private void compare(String method, String arguments, IntSupplier got, IntSupplier want) {
        String wanted = Due.answerOf(want);
        seen.merge(method + " " + wanted, 1, Integer::sum);
        due.same("run " + run + ": " + method + arguments, wanted, Due.answerOf(got));
    }

    private int someExtreme() {
        int[] extremes = {Integer.MIN_VALUE, Integer.MAX_VALUE, -1, -2, 256, 1000};
        return extremes[random.nextInt(extremes.length)];
    }

    private int someObject() {
        if (random.nextInt(40) == 0) {
            return someExtreme();
        }
        int made = model.objectsMade();
        int span = random.nextBoolean() ? 6 : made + 1;
        return Math.max(0, made - random.nextInt(span + 1));
    }

    private int someSave() {
        int dice = random.nextInt(10);
        if (dice == 0) {
            return someExtreme();
        }
        return dice < 7 ? model.latestLiving() : random.nextInt(model.savesMade() + 2);
    }

    private int someIndex(int bound) {
        int dice = random.nextInt(30);
        if (dice == 0) {
            return someExtreme();
        }
        return dice == 1 ? bound : random.nextInt(bound);
    }

    private int someValue() {
        int dice = random.nextInt(20);
        if (dice == 0) {
            return someExtreme();
        }
        return dice < 8 ? -1 - someObject() : random.nextInt(5);
    }

    private int someByte() {
        int dice = random.nextInt(10);
        if (dice == 0) {
            return someExtreme();
        }
        return dice < 4 ? -1 : random.nextInt(256);
    }
}
