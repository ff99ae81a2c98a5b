import java.io.IOException;
import java.nio.file.Files;
import java.nio.file.Path;
import java.util.ArrayList;
import java.util.LinkedHashMap;
import java.util.List;
import java.util.Map;

/** All runs, each under the sentence that it shows; looks whether a sentence of the document has none. */
final class Sentences {
    private static final Path DOCUMENT = Path.of("../shared/DOC.md");
    private final List<Run> runs = new ArrayList<>();

    /** A new run under a sentence of a section, both in the document's own words. */
    Run run(String section, String sentence) {
        Run run = new Run(section, sentence);
        runs.add(run);
        return run;
    }

    void check(Due due) throws IOException {
        for (Run each : runs) {
            each.check(due);
        }
        if (Files.exists(DOCUMENT)) {
            checkDocument(due);
        } else {
            System.out.println("sentences: not compared with " + DOCUMENT + ", which is not there");
        }
    }

    private void checkDocument(Due due) throws IOException {
        Map<String, StringBuilder> sections = sectionsOf(Files.readAllLines(DOCUMENT));
        for (Run each : runs) {
            StringBuilder text = sections.get(each.section);
            int at = text == null ? -1 : plainText(text).indexOf(each.sentence);
            due.same(each.section + " says: " + each.sentence, "true", Boolean.toString(at >= 0));
        }
        sections.forEach((section, text) -> {
            if (section.equals("Terms") || section.startsWith("Promise ")) {
                due.same(section + ": what no run shows", "", withoutShown(section, plainText(text)));
            }
        });
    }

    /** Headings up to their colon name the sections: Terms, Promise 1, and so on. */
    private static Map<String, StringBuilder> sectionsOf(List<String> lines) {
        Map<String, StringBuilder> sections = new LinkedHashMap<>();
        StringBuilder text = new StringBuilder();
        for (String line : lines) {
            if (line.startsWith("## ")) {
                text = new StringBuilder();
                sections.put(line.substring(3).replaceFirst(":.*", ""), text);
            } else {
                text.append(line).append(' ');
            }
        }
        return sections;
    }

    /** Without the fences of its blocks and the head of each method, which FaceTest looks at. */
    private static String plainText(CharSequence text) {
        return text.toString().replaceAll("```\\w*", " ").replaceAll("`[^`]*`: ", " ").replaceAll("\\s+", " ").trim();
    }

    private String withoutShown(String section, String text) {
        StringBuilder left = new StringBuilder(text);
        for (Run each : runs) {
            int at = each.section.equals(section) ? text.indexOf(each.sentence) : -1;
            for (int k = 0; at >= 0 && k < each.sentence.length(); k++) {
                left.setCharAt(at + k, ' ');
            }
        }
        return left.toString().replaceAll("[\\s.,:;]+", " ").trim();
    }
}
