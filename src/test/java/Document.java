import java.io.IOException;
import java.nio.charset.StandardCharsets;
import java.nio.file.Files;
import java.nio.file.Path;
import java.util.ArrayList;
import java.util.Arrays;
import java.util.LinkedHashMap;
import java.util.List;
import java.util.Map;
import java.util.regex.Matcher;
import java.util.regex.Pattern;

/**
 * The document, section by section, so that the tests quote it as it is, and leave out no
 * sentence of the terms and the promises.
 */
final class Document {
    private static final Path PLACE = Path.of("..", "shared", "DOC.md");
    private static final String FACE = "The public face";
    private static final String TERMS = "Terms";
    private static final String PROMISE = "Promise ";

    /** What is no sentence: the headings inside the terms, and the calls, which the face tells. */
    private static final List<String> HEADINGS = List.of("LEVELS", "NAMES", "SIGNS AND BUTTONS",
            "RIDES", "TEXT", "ACTIONS AND UNDO", "EXCEPTIONS");
    private static final Pattern CALL = Pattern.compile("`([^`]+)`:");

    /** The words of each section, by its heading. */
    private final Map<String, String> sections = new LinkedHashMap<>();

    Document() throws IOException {
        String heading = "";
        for (String line : Files.readAllLines(PLACE, StandardCharsets.UTF_8)) {
            if (line.startsWith("## ")) {
                heading = line.substring(3);
            } else {
                sections.merge(heading, line, (words, more) -> words + " " + more);
            }
        }
        sections.replaceAll((name, words) -> words.replaceAll("\\s+", " ").trim());
    }

    static boolean isThere() {
        return Files.isReadable(PLACE);
    }

    void compare(Check check) {
        for (Check.Quote quote : check.quotes()) {
            if (!words(quote.section).contains(quote.words)) {
                check.tell("the document does not say in '" + quote.section + "': " + quote.words);
            }
        }
        for (String section : sections.keySet()) {
            if (section.equals(TERMS) || section.startsWith(PROMISE)) {
                for (String left : leftOut(section, check.quotes())) {
                    check.tell("no test is for '" + left + "' of " + section);
                }
            }
        }
    }

    /** Each line of the public face. */
    List<String> face() {
        List<String> lines = new ArrayList<>();
        for (String line : words(FACE).replaceAll("```(java)?|[{}]", ";").split(";")) {
            if (!line.isBlank()) {
                lines.add(line.trim());
            }
        }
        return lines;
    }

    /** The call with which each promise begins. */
    List<String> promisedCalls() {
        List<String> calls = new ArrayList<>();
        for (String section : sections.keySet()) {
            if (section.startsWith(PROMISE)) {
                Matcher call = CALL.matcher(words(section));
                calls.add(call.lookingAt() ? call.group(1) : section);
            }
        }
        return calls;
    }

    private String words(String section) {
        return sections.getOrDefault(section, "");
    }

    /** The words of a section that no quote has. */
    private List<String> leftOut(String section, List<Check.Quote> quotes) {
        char[] words = words(section).toCharArray();
        for (Check.Quote quote : quotes) {
            if (quote.section.equals(section) && !quote.words.isEmpty()) {
                int at = words(section).indexOf(quote.words);
                while (at >= 0) {
                    Arrays.fill(words, at, at + quote.words.length(), '\n');
                    at = words(section).indexOf(quote.words, at + 1);
                }
            }
        }
        List<String> left = new ArrayList<>();
        for (String part : new String(words).split("\n+")) {
            String rest = part.trim();
            if (!rest.isEmpty() && !HEADINGS.contains(rest) && !CALL.matcher(rest).matches()) {
                left.add(rest);
            }
        }
        return left;
    }
}
