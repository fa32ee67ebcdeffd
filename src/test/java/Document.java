import java.io.IOException;
import java.nio.file.Files;
import java.nio.file.Path;
import java.util.LinkedHashMap;
import java.util.Map;

/**
 * The document's sentences: an edge's test names the one it is for, and at the end it can be seen
 * which of its words no test has named.
 */
final class Document {
    private static final Path PLACE = Path.of("..", "shared", "DOC.md");

    private final Map<String, String> sections = new LinkedHashMap<>();
    private final Map<String, boolean[]> named = new LinkedHashMap<>();

    Document() throws IOException {
        String title = "";
        for (String line : Files.readAllLines(PLACE)) {
            if (line.startsWith("## ")) {
                title = line.substring(3).replaceAll(":.*", "");
            } else {
                sections.merge(title, line + "\n", String::concat);
            }
        }
        sections.forEach((name, text) -> named.put(name, new boolean[text.length()]));
    }

    static boolean isThere() {
        return Files.isReadable(PLACE);
    }

    /** Whether the sentence stands in the section; its words are named from now on. */
    boolean name(String section, String sentence) {
        String text = sections.getOrDefault(section, "");
        int from = text.indexOf(sentence);
        for (int i = from; from >= 0 && i < from + sentence.length(); i++) {
            named.get(section)[i] = true;
        }
        return from >= 0;
    }

    /** The words that are not named, headings left out. */
    String unnamed() {
        StringBuilder all = new StringBuilder();
        sections.forEach((title, text) -> {
            boolean[] here = named.get(title);
            for (int i = 0; i < text.length(); i++) {
                if (Character.isLetterOrDigit(text.charAt(i)) && !here[i]) {
                    all.append(text.charAt(i));
                }
            }
        });
        return all.toString();
    }
}
