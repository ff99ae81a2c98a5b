import java.io.IOException;
import java.lang.reflect.Method;
import java.lang.reflect.Modifier;
import java.nio.file.Files;
import java.nio.file.Path;
import java.util.ArrayList;
import java.util.Collections;
import java.util.List;
import java.util.TreeSet;
import java.util.regex.Matcher;
import java.util.regex.Pattern;

/** README.md's example answers as it says, and its table has each call of the face with what it throws, in order. */
public final class ReadmeTest {
    private static final Pattern EXAMPLE = Pattern.compile("x\\.(\\w+\\(.*\\)); +// (-?\\d+|throws \\w+)(:.*)?");
    private static final Pattern ROW = Pattern.compile("\\| `(\\w+)\\((.*?)\\)` \\|.*\\|(.*)\\|");
    private static final Pattern EXCEPTION = Pattern.compile("`(\\w+Exception)`");

    public static void main(String[] args) throws IOException {
        Due due = new Due("README.md");
        List<String> lines = Files.readAllLines(Path.of("README.md"));
        checkExample(due, lines);
        due.same("the table of calls", callsOfFace().toString(), callsOfTable(lines).toString());
        due.end();
    }

    private static void checkExample(Due due, List<String> lines) {
        Run run = new Run("README.md", "the example");
        int calls = 0;
        for (String line : lines) {
            Matcher found = EXAMPLE.matcher(line);
            if (found.matches()) {
                run.row(found.group(1), found.group(2).replace("throws ", "throws."));
                calls++;
            }
            due.same("a line of the example is understood: " + line, Boolean.toString(line.startsWith("x.")),
                Boolean.toString(found.matches()));
        }
        due.same("there is an example", "true", Boolean.toString(calls > 0));
        run.check(due);
    }

    private static TreeSet<String> callsOfFace() {
        TreeSet<String> calls = new TreeSet<>();
        for (Method each : SaveRestore.class.getDeclaredMethods()) {
            if (Modifier.isPublic(each.getModifiers())) {
                List<String> thrown = new ArrayList<>();
                for (Class<?> exception : each.getExceptionTypes()) {
                    thrown.add(exception.getSimpleName());
                }
                calls.add(textOf(each.getName(), each.getParameterCount(), thrown));
            }
        }
        return calls;
    }

    private static TreeSet<String> callsOfTable(List<String> lines) {
        TreeSet<String> calls = new TreeSet<>();
        for (String line : lines) {
            Matcher row = ROW.matcher(line);
            if (row.matches()) {
                List<String> thrown = new ArrayList<>();
                Matcher exception = EXCEPTION.matcher(row.group(3));
                while (exception.find()) {
                    thrown.add(exception.group(1));
                }
                int parameters = row.group(2).isEmpty() ? 0 : row.group(2).split(", ").length;
                calls.add(textOf(row.group(1), parameters, thrown));
            }
        }
        return calls;
    }

    private static String textOf(String name, int parameters, List<String> thrown) {
        return name + "(" + String.join(", ", Collections.nCopies(parameters, "_")) + ") throws " + thrown;
    }
}
