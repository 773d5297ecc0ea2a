import java.io.IOException;
import java.lang.reflect.Method;
import java.lang.reflect.Modifier;
import java.nio.file.Files;
import java.nio.file.Path;
import java.util.List;
import java.util.regex.Matcher;
import java.util.regex.Pattern;

/**
 * Prints the examples of README.md as a test, ReadmeExamplesTest: each one as it stands there, for the compiler
 * alone, and once more with a check for each answer that is told. Run from the project's folder.
 */
public final class ReadmeUse {
    private static final Pattern TELLS_AN_ANSWER = Pattern.compile(
            "(?:(?:int|long|boolean) (\\w+) = )?(.+?); *// (-?\\d+|true|false|'.'|throws \\w+)(?:: .*)?");
    private static final Pattern HAS_NO_ANSWER = Pattern.compile(
            "SecurePair pair = new SecurePair\\(\\);|pair\\.trust\\(.*\\);|while \\(.*\\) \\{|}| +.*");

    private final StringBuilder test = new StringBuilder();
    private final StringBuilder calls = new StringBuilder();
    private int examples = 0;

    public static void main(String[] args) throws IOException {
        ReadmeUse use = new ReadmeUse();
        List<String> lines = Files.readAllLines(Path.of("README.md"));
        for (int i = lines.indexOf("```java"); i >= 0 && i < lines.size(); i++) {
            if (lines.get(i).equals("```java")) {
                i = use.takeExample(lines, i + 1);
            }
        }
        use.everyCallIsShown();
        System.out.println("public final class ReadmeExamplesTest {");
        System.out.print(use.test);
        System.out.println("public static void main(String[] args) {\n" + use.calls + "Check.end();\n}\n}");
    }

    /** Answers the line where the example ends. */
    private int takeExample(List<String> lines, int from) {
        StringBuilder shown = new StringBuilder();
        StringBuilder checked = new StringBuilder();
        int at = from;
        while (!lines.get(at).equals("```")) {
            shown.append(lines.get(at)).append('\n');
            checked.append(withCheck(lines.get(at), "README.md, line " + (at + 1) + ": ")).append('\n');
            at++;
        }
        examples++;
        test.append("static void shown").append(examples).append("() {\n").append(shown).append("}\n");
        test.append("static void checked").append(examples).append("() {\n").append(checked).append("}\n");
        calls.append("checked").append(examples).append("();\n");
        return at;
    }

    private static String withCheck(String line, String place) {
        Matcher told = TELLS_AN_ANSWER.matcher(line);
        if (!told.matches()) {
            if (!HAS_NO_ANSWER.matcher(line).matches()) {
                throw new IllegalStateException(place + "no answer is told by " + line);
            }
            return line;
        }
        String where = '"' + (place + told.group(2)).replace("\\", "\\\\").replace("\"", "\\\"") + '"';
        if (told.group(1) == null) {
            return check(where, told.group(2), told.group(3));
        }
        return line.substring(0, line.indexOf(';') + 1) + ' ' + check(where, told.group(1), told.group(3));
    }

    private static String check(String where, String expression, String answer) {
        if (answer.startsWith("throws ")) {
            return "Check.refused(" + where + ", " + answer.substring(7) + ".class, pair, () -> " + expression + ");";
        }
        if (answer.equals("true") || answer.equals("false")) {
            return "Check." + (answer.equals("true") ? "yes" : "no") + "(" + where + ", " + expression + ");";
        }
        String due = answer.startsWith("'") ? answer : answer + "L";
        return "Check.same(" + where + ", " + expression + ", " + due + ");";
    }

    private void everyCallIsShown() {
        for (Method method : SecurePair.class.getDeclaredMethods()) {
            if (Modifier.isPublic(method.getModifiers()) && test.indexOf("pair." + method.getName() + "(") < 0) {
                throw new IllegalStateException("README.md has no example of " + method.getName());
            }
        }
    }
}
