import java.io.IOException;
import java.nio.charset.StandardCharsets;
import java.nio.file.Files;
import java.nio.file.Path;
import java.util.ArrayList;
import java.util.LinkedHashMap;
import java.util.List;
import java.util.Map;

/**
 * The document, section by section, so that the tests quote it as it is, and leave out none
 * of the lines that tell what an argument may be and when a call throws.
 */
final class Document {
    private static final Path PLACE = Path.of("..", "shared", "DOC.md");

    /** The lines of each section, by its heading. */
    private final Map<String, List<String>> sections = new LinkedHashMap<>();

    Document() throws IOException {
        List<String> section = new ArrayList<>();
        for (String line : Files.readAllLines(PLACE, StandardCharsets.UTF_8)) {
            if (line.startsWith("## ")) {
                section = new ArrayList<>();
                sections.put(line.substring(3), section);
            } else {
                section.add(line);
            }
        }
    }

    static boolean isThere() {
        return Files.isReadable(PLACE);
    }

    void compare(Check check) {
        for (Check.Quote quote : check.quotes()) {
            if (!words(quote.section).contains(quote.words)) {
                check.tell("the document does not say in '" + quote.section + "': " + quote.words);
            }
        }
        for (Map.Entry<String, List<String>> section : sections.entrySet()) {
            for (String line : section.getValue()) {
                boolean namesAnEdge = line.startsWith("Throws ") || line.startsWith("- `");
                if (section.getKey().startsWith("Promise ") && namesAnEdge
                        && !isQuoted(check, section.getKey(), line)) {
                    check.tell("no test is for '" + line + "' of " + section.getKey());
                }
            }
        }
    }

    private String words(String section) {
        List<String> lines = sections.getOrDefault(section, List.of());
        return String.join(" ", lines).replaceAll("\\s+", " ");
    }

    private static boolean isQuoted(Check check, String section, String line) {
        for (Check.Quote quote : check.quotes()) {
            if (quote.section.equals(section) && quote.words.equals(line.trim())) {
                return true;
            }
        }
        return false;
    }
}
