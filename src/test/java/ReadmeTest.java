import java.io.ByteArrayOutputStream;
import java.io.IOException;
import java.io.PrintStream;
import java.nio.charset.StandardCharsets;
import java.nio.file.Files;
import java.nio.file.Path;
import java.util.ArrayList;
import java.util.List;
import java.util.regex.Matcher;
import java.util.regex.Pattern;

/**
 * The example that README.md shows is the program in src/example/java, and each answer that
 * it tells behind a call is the one that the class gives.
 */
public final class ReadmeTest {
    private static final Path README = Path.of("README.md");
    private static final Path EXAMPLE = Path.of("src", "example", "java", "Example.java");
    private static final Pattern SHOWN = Pattern.compile("show\\((.*)\\); +// (-?\\d+): .+");

    private static final Check check = new Check();

    public static void main(String[] args) throws IOException {
        String readme = Files.readString(README, StandardCharsets.UTF_8);
        String example = Files.readString(EXAMPLE, StandardCharsets.UTF_8);
        if (!readme.contains("```java\n" + example + "```\n")) {
            check.tell("README.md does not show " + EXAMPLE + " as it is");
        }
        answersAreAsTold(example);
        check.end();
    }

    private static void answersAreAsTold(String example) {
        List<String> calls = new ArrayList<>();
        List<String> due = new ArrayList<>();
        for (String line : example.split("\n")) {
            Matcher shown = SHOWN.matcher(line.trim());
            if (shown.matches()) {
                calls.add(shown.group(1));
                due.add(shown.group(2));
            } else if (line.contains(" show(panels")) {
                check.tell("no answer is told behind " + line.trim());
            }
        }
        List<String> got = printed();
        check.is("the answers that the example prints", got.size(), due.size());
        for (int i = 0; i < Math.min(got.size(), due.size()); i++) {
            check.same("the answer that README.md tells of " + calls.get(i), due.get(i), got.get(i));
        }
    }

    private static List<String> printed() {
        PrintStream before = System.out;
        ByteArrayOutputStream bytes = new ByteArrayOutputStream();
        System.setOut(new PrintStream(bytes, true, StandardCharsets.UTF_8));
        try {
            Example.main(new String[0]);
        } finally {
            System.setOut(before);
        }
        return bytes.toString(StandardCharsets.UTF_8).lines().toList();
    }
}
