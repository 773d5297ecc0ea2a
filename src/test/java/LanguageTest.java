import java.io.IOException;
import java.nio.file.Files;
import java.nio.file.Path;
import java.util.regex.Matcher;
import java.util.regex.Pattern;

/** Those rules of LANGUAGE.md that a look at the program's text can tell. Run from the project's folder. */
public final class LanguageTest {
    private static final Path PROGRAM = Path.of("src/main/java/SecurePair.java");
    private static final String[] NOT_ALLOWED = {
        "->", "::", "\\bimport\\b", "\\bpackage\\b", "\\bsynchronized\\b", "\\bassert\\b", "\\bfinally\\b", "\\btry\\b",
        "\\bSystem\\.(?!arraycopy)", "\\bMath\\.\\w+Exact", "\\bthread\\b", "\\bThread\\b", "\\brandom\\b", "\\bRandom\\b",
        "\\bdouble\\b", "\\bfloat\\b", "\\bprotected\\b", "\\bstatic\\s*\\{", "\\b(equals|hashCode|toString)\\s*\\(",
        "\\bvar\\b", "\\.\\.\\.",
    };
    private static final Pattern METHOD = Pattern.compile("\n( {4}| {8})[a-z][\\w<>\\[\\] ]* \\w+\\(([^)]*)\\)[^;{]*\\{\n");

    public static void main(String[] args) throws IOException {
        String text = Files.readString(PROGRAM);
        String code = text.replaceAll("(?s)/\\*.*?\\*/", "").replaceAll("//[^\n]*", "").replaceAll("\"[^\"\n]*\"", "\"\"");
        for (String pattern : NOT_ALLOWED) {
            Check.no("found in the program: " + pattern, Pattern.compile(pattern).matcher(code).find());
        }
        staticFieldsAreConstants(code);
        methodsAreShort(code);
        Check.yes("at most twelve classes", code.split("\\bclass\\b").length - 1 <= 12);
        Check.yes("one public class", code.split("public final class").length == 2);
        Check.end();
    }

    private static void staticFieldsAreConstants(String code) {
        Matcher field = Pattern.compile("\n\\s*[\\w ]*\\bstatic\\b([\\w ]*)=").matcher(code);
        while (field.find()) {
            Check.yes("a constant:" + field.group(), field.group(1).matches(" final (int|long|boolean|char|String) [A-Z_]+ "));
        }
    }

    private static void methodsAreShort(String code) {
        Matcher method = METHOD.matcher(code);
        int seen = 0;
        while (method.find()) {
            seen++;
            String end = "\n" + method.group(1) + "}\n";
            int lines = code.substring(method.start(), code.indexOf(end, method.start())).split("\n").length;
            Check.yes("at most sixty lines:" + method.group(), lines <= 60);
            Check.yes("at most seven parameters:" + method.group(), method.group(2).split(",").length <= 7);
        }
        Check.yes("methods were found", seen > 40);
    }
}
