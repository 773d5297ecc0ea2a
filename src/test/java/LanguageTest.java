import java.io.IOException;
import java.nio.file.Files;
import java.nio.file.Path;
import java.util.Map;
import java.util.Set;
import java.util.TreeMap;
import java.util.TreeSet;
import java.util.regex.Matcher;
import java.util.regex.Pattern;

/** Those rules of LANGUAGE.md that a look at the program's text can tell. Run from the project's folder. */
public final class LanguageTest {
    private static final Path PROGRAM = Path.of("src/main/java/SecurePair.java");
    private static final String[] NOT_ALLOWED = {
        "->", "::", "\\bimport\\b", "\\bpackage\\b", "\\bsynchronized\\b", "\\bassert\\b", "\\bfinally\\b", "\\btry\\b",
        "\\bSystem\\.(?!arraycopy)", "\\bMath\\.\\w+Exact", "\\bthread\\b", "\\bThread\\b", "\\brandom\\b", "\\bRandom\\b",
        "\\bdouble\\b", "\\bfloat\\b", "\\bprotected\\b", "\\bstatic\\s*\\{", "\\b(equals|hashCode|toString)\\s*\\(",
        "\\bvar\\b", "\\.\\.\\.",
    };
    private static final Pattern METHOD = Pattern.compile("\n( {4}| {8})[A-Za-z][\\w<>\\[\\] ]* (\\w+)\\(([^)]*)\\)[^;{]*\\{\n");

    public static void main(String[] args) throws IOException {
        String text = Files.readString(PROGRAM);
        String code = text.replaceAll("(?s)/\\*.*?\\*/", "").replaceAll("//[^\n]*", "").replaceAll("\"[^\"\n]*\"", "\"\"");
        for (String pattern : NOT_ALLOWED) {
            Check.no("found in the program: " + pattern, Pattern.compile(pattern).matcher(code).find());
        }
        staticFieldsAreConstants(code);
        methodsAreShort(code);
        callsGoAtMostEightDeep(code);
        nothingIsMadeByACall(code);
        Check.yes("at most twelve classes", code.split("\\bclass\\b").length - 1 <= 12);
        Check.yes("one public class", code.split("public final class").length == 2);
        Check.end();
    }

    private static void staticFieldsAreConstants(String code) {
        Matcher field = Pattern.compile("\n\\s*[\\w ]*\\bstatic\\b([\\w ]*)=").matcher(code);
        while (field.find()) {
            Check.yes("a constant:" + field.group(), field.group(1).matches(" final (int|long|boolean|char|String) [A-Z_]+ "));
        }
    }

    /** Which methods each method calls, by their names; of a method that two classes have, both together. */
    private static Map<String, Set<String>> callsOf(String code) {
        Map<String, String> bodies = new TreeMap<>();
        Matcher method = METHOD.matcher(code);
        while (method.find()) {
            String end = "\n" + method.group(1) + "}\n";
            String body = code.substring(method.end(), code.indexOf(end, method.start()));
            bodies.merge(method.group(2), body, String::concat);
        }
        Map<String, Set<String>> calls = new TreeMap<>();
        for (String caller : bodies.keySet()) {
            calls.put(caller, new TreeSet<>(bodies.keySet()));
            calls.get(caller).removeIf(called -> !Pattern.compile("\\b" + called + "\\(").matcher(bodies.get(caller)).find());
        }
        return calls;
    }

    private static int depthOf(String method, Map<String, Set<String>> calls, int above) {
        int deepest = 0;
        for (String called : above < 20 ? calls.get(method) : Set.<String>of()) {
            deepest = Math.max(deepest, depthOf(called, calls, above + 1));
        }
        return deepest + 1;
    }

    private static void callsGoAtMostEightDeep(String code) {
        Map<String, Set<String>> calls = callsOf(code);
        Check.yes("methods were found", calls.size() > 60);
        Check.yes("deliver receives", calls.get("deliver").contains("receive"));
        for (String method : calls.keySet()) {
            Check.yes("at most eight deep: " + method, depthOf(method, calls, 0) <= 8);
        }
    }

    /** All rows are made with the object, so that no number of calls fills the room. */
    private static void nothingIsMadeByACall(String code) {
        Matcher made = Pattern.compile("\n *([^\n]*)\\bnew\\b").matcher(code);
        while (made.find()) {
            Check.yes("made by a constructor: " + made.group(),
                    made.group(1).matches("throw |final .* = |Line to\\w+ = |client = |server = |channels\\[c\\] = "));
        }
    }

    private static void methodsAreShort(String code) {
        Matcher method = METHOD.matcher(code);
        int seen = 0;
        while (method.find()) {
            seen++;
            String end = "\n" + method.group(1) + "}\n";
            int lines = code.substring(method.start(), code.indexOf(end, method.start())).split("\n").length;
            Check.yes("at most sixty lines:" + method.group(), lines <= 60);
            Check.yes("at most seven parameters:" + method.group(), method.group(3).split(",").length <= 7);
        }
        Check.yes("methods were found", seen > 40);
    }
}
