import java.io.IOException;
import java.nio.file.Files;
import java.nio.file.Path;
import java.util.ArrayList;
import java.util.LinkedHashMap;
import java.util.List;
import java.util.Map;

/**
 * The sentences of ../shared/DOC.md by their sections. A part that ends with ";" counts as a
 * sentence, since the document puts several boundary cases into one; so does a line of a form.
 */
final class Document {
    private static final Path FILE = Path.of("..", "shared", "DOC.md");

    private final Map<String, List<String>> sections = new LinkedHashMap<>();

    Document() throws IOException {
        String section = "";
        for (String line : Files.readAllLines(FILE)) {
            if (line.startsWith("#")) {
                section = nameOf(line);
            } else if (!line.isBlank() && !line.startsWith("```")) {
                addSentences(section, line);
            }
        }
    }

    static boolean isThere() {
        return Files.exists(FILE);
    }

    /** "Promise 7" for "## Promise 7: buy". */
    private static String nameOf(String heading) {
        String name = heading.replaceFirst("^#+ ", "");
        return name.startsWith("Promise ") ? name.replaceFirst(":.*", "") : name;
    }

    private void addSentences(String section, String line) {
        List<String> sentences = sections.computeIfAbsent(section, key -> new ArrayList<>());
        for (String sentence : line.trim().split("(?<=[.;])\\s+")) {
            sentences.add(sentence);
        }
    }

    Iterable<String> sections() {
        return sections.keySet();
    }

    List<String> sentences(String section) {
        return sections.getOrDefault(section, List.of());
    }
}
