import java.util.ArrayList;
import java.util.List;

/**
 * A run of calls on a new object, each written as text with the answer that is due: it shows one sentence of the
 * document. The words least and greatest stand for the least and the greatest int.
 */
final class Run {
    /** What an object answers behind so many calls is free, so that no run may ask for it. */
    private static final int MOST_CALLS = 512;
    private static final String[] READING = {"get(", "stateOf(", "used(", "old(", "deepest("};

    final String section;
    final String sentence;
    private final List<String> calls = new ArrayList<>();
    private final List<String> answers = new ArrayList<>();
    private int objects = 0;
    private int saves = 0;

    Run(String section, String sentence) {
        this.section = section;
        this.sentence = sentence;
    }

    Run is(String call, int answer) {
        return row(call, Integer.toString(answer));
    }

    Run noSuchElement(String... each) {
        return rows("throws.NoSuchElementException", each);
    }

    Run outOfBounds(String... each) {
        return rows("throws.IndexOutOfBoundsException", each);
    }

    Run illegalState(String... each) {
        return rows("throws.IllegalStateException", each);
    }

    Run unsupported(String... each) {
        return rows("throws.UnsupportedOperationException", each);
    }

    private Run rows(String answer, String... each) {
        for (String call : each) {
            row(call, answer);
        }
        return this;
    }

    Run row(String call, String answer) {
        calls.add(call);
        answers.add(answer);
        objects += call.startsWith("object(") ? 1 : 0;
        saves += call.startsWith("save(") ? 1 : 0;
        return this;
    }

    /** Compares each answer, then leaves out each call that changes nothing: the rest must answer as before. */
    void check(Due due) {
        due.same(title() + ": calls", "at most " + MOST_CALLS,
            calls.size() <= MOST_CALLS ? "at most " + MOST_CALLS : Integer.toString(calls.size()));
        SaveRestore x = new SaveRestore();
        for (int k = 0; k < calls.size(); k++) {
            due.same(title() + ": call " + (k + 1) + ", " + calls.get(k), answers.get(k), answerOf(x, calls.get(k)));
        }
        List<String> behind = behind();
        List<String> wanted = answersOf(behind, x);
        for (int k = 0; k < calls.size(); k++) {
            if (changesNothing(calls.get(k), answers.get(k))) {
                checkWithout(due, k, behind, wanted);
            }
        }
    }

    private void checkWithout(Due due, int left, List<String> behind, List<String> wanted) {
        SaveRestore x = new SaveRestore();
        String name = title() + ": without call " + (left + 1) + ", " + calls.get(left) + ", ";
        for (int k = 0; k < calls.size(); k++) {
            if (k != left) {
                due.same(name + "call " + (k + 1) + ", " + calls.get(k), answers.get(k), answerOf(x, calls.get(k)));
            }
        }
        due.same(name + "all that is seen behind the run", wanted.toString(), answersOf(behind, x).toString());
    }

    private static boolean changesNothing(String call, String answer) {
        for (String each : READING) {
            if (call.startsWith(each)) {
                return true;
            }
        }
        return answer.startsWith("throws.")
            || call.startsWith("restore(") && answer.startsWith("-")
            || call.equals("pop()") && answer.equals("-1")
            || call.startsWith("bytes(") && call.endsWith(", -1)");
    }

    /** Calls that see as much of the state as there are calls left: first what is now, then what saves hold. */
    private List<String> behind() {
        List<String> all = new ArrayList<>();
        look(all);
        for (int save = saves; save >= 1; save--) {
            addAll(all, "pop()", "stateOf(0)", "pop()", "stateOf(7)", "restore(" + save + ")");
            look(all);
        }
        addAll(all, "pop()", "pop()", "object(false)", "save()", "push()", "used()");
        return all.subList(0, Math.min(all.size(), MOST_CALLS - Math.min(MOST_CALLS, calls.size())));
    }

    private void look(List<String> all) {
        addAll(all, "used()", "deepest()");
        for (int what = 0; what < 10; what++) {
            all.add("stateOf(" + what + ")");
        }
        for (int object = 0; object < Math.min(3, objects); object++) {
            all.add("old(" + object + ")");
            for (int i = 0; i < 8; i++) {
                addAll(all, "get(" + object + ", " + i + ")", "bytes(" + object + ", " + i + ", -1)");
            }
        }
    }

    private static void addAll(List<String> all, String... each) {
        all.addAll(List.of(each));
    }

    private static List<String> answersOf(List<String> each, SaveRestore x) {
        List<String> all = new ArrayList<>();
        for (String call : each) {
            all.add(call + " " + answerOf(x, call));
        }
        return all;
    }

    private static String answerOf(SaveRestore x, String call) {
        int open = call.indexOf('(');
        String name = call.substring(0, open);
        String[] words = call.substring(open + 1, call.length() - 1).split(", ");
        if (name.equals("object")) {
            return Due.answerOf(() -> x.object(words[0].equals("true")));
        }
        int[] n = new int[3];
        for (int k = 0; k < words.length && !words[k].isEmpty(); k++) {
            n[k] = numberOf(words[k]);
        }
        return Due.answerOf(() -> answerOf(x, name, n));
    }

    private static int numberOf(String word) {
        return switch (word) {
            case "least" -> Integer.MIN_VALUE;
            case "greatest" -> Integer.MAX_VALUE;
            default -> Integer.parseInt(word);
        };
    }

    private static int answerOf(SaveRestore x, String name, int[] n) {
        return switch (name) {
            case "put" -> x.put(n[0], n[1], n[2]);
            case "get" -> x.get(n[0], n[1]);
            case "save" -> x.save();
            case "restore" -> x.restore(n[0]);
            case "state" -> x.state(n[0], n[1]);
            case "stateOf" -> x.stateOf(n[0]);
            case "push" -> x.push();
            case "pop" -> x.pop();
            case "bytes" -> x.bytes(n[0], n[1], n[2]);
            case "used" -> x.used();
            case "old" -> x.old(n[0]);
            case "deepest" -> x.deepest();
            default -> throw new AssertionError(name);
        };
    }

    private String title() {
        return section + ", \"" + sentence + "\"";
    }
}
