import java.io.IOException;
import java.nio.file.Files;
import java.nio.file.Path;
import java.util.ArrayList;
import java.util.List;
import java.util.regex.Matcher;
import java.util.regex.Pattern;
import java.util.stream.Stream;

/** What README.md says of the tests: each one that it names is there, and it names each one. Run from the project's folder. */
public final class ReadmeTest {
    private static final Path TESTS = Path.of("src/test/java");
    private static final Pattern NAMED = Pattern.compile("`(\\w+)` ([a-z]\\w+(?:, [a-z]\\w+)*)(?=[ ;|])");

    public static void main(String[] args) throws IOException {
        List<String> readme = Files.readAllLines(Path.of("README.md"));
        for (String name : filesOfTests()) {
            Check.yes("README.md names " + name, String.join("\n", readme).contains("`" + name + "`"));
        }
        int named = 0;
        for (String row : readme) {
            if (row.startsWith("| ") && row.contains("Test` ")) {
                named += checkMethods(row);
            }
        }
        Check.yes("tests of boundary cases are named", named > 40);
        Check.end();
    }

    private static List<String> filesOfTests() throws IOException {
        List<String> names = new ArrayList<>();
        try (Stream<Path> files = Files.list(TESTS)) {
            files.forEach(file -> names.add(file.getFileName().toString().replace(".java", "")));
        }
        return names;
    }

    /** Answers how many methods the row of a table names. */
    private static int checkMethods(String row) throws IOException {
        int named = 0;
        Matcher matcher = NAMED.matcher(row.substring(row.lastIndexOf('|', row.length() - 2)));
        while (matcher.find()) {
            Path file = TESTS.resolve(matcher.group(1) + ".java");
            Check.yes("there is " + file, Files.exists(file));
            String text = Files.exists(file) ? Files.readString(file) : "";
            for (String method : matcher.group(2).split(", ")) {
                Check.yes(file + " has " + method, text.contains(" void " + method + "("));
                Check.yes(file + " calls " + method, text.split("\\b" + method + "\\(").length > 2);
                named++;
            }
        }
        return named;
    }
}
