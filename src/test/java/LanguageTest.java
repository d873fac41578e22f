import java.io.IOException;
import java.nio.file.Files;
import java.nio.file.Path;
import java.util.regex.Matcher;
import java.util.regex.Pattern;

/** The rules of LANGUAGE.md that can be read off the source of the class. */
public final class LanguageTest {
    private static final String FACE = "write|erase|fault|green|plot|house|as|can|go|roll|keep|back|later|round|touch"
        + "|when|often|brings|feuding|nearest|mends|seen|forget|laws|count";

    public static void main(String[] args) throws IOException {
        String source = Files.readString(Path.of("src/main/java/NightPlots.java"));
        String code = source.replaceAll("(?s)/\\*.*?\\*/", "").replaceAll("//[^\n]*", "")
            .replaceAll("\"[^\"\n]*\"", "\"\"").replaceAll("'[^'\n]*'", "' '");
        none(code, "\\b(throw|throws|try|catch|finally|synchronized|assert|native|volatile|yield|var|protected)\\b");
        none(code, "->|::");
        none(code, "\\b(double|float|Object|Random|Thread|System\\.(?!arraycopy)|Exact)\\b");
        none(code, "^\\s*package\\b");
        none(code, "import (?!java\\.util\\.Arrays;)");
        none(code, "\\b(equals|hashCode|toString)\\b");
        none(code, "static \\{");
        none(code, "private [\\w\\[\\]. ]+ (" + FACE + ")\\(");
        none(code, "\n        (?!return)[\\w\\[\\]]+ (" + FACE + ")\\(");
        none(code, "[^\\x00-\\x7f]");
        face(code);
        methodLengths(code);
        Check.end("LanguageTest");
    }

    private static void none(String code, String pattern) {
        Matcher m = Pattern.compile(pattern, Pattern.MULTILINE).matcher(code);
        boolean found = m.find();
        Check.due("looking for " + pattern + (found ? ": '" + m.group() + "'" : ""), found ? 1 : 0, 0);
    }

    private static void face(String code) {
        Matcher m = Pattern.compile("(?m)^    public (?:static final )?int (\\w+)").matcher(code);
        int methods = 0;
        while (m.find()) {
            methods += m.group(1).matches(FACE) ? 1 : 0;
        }
        Check.due("methods of the face", methods, 25);
        Matcher all = Pattern.compile("(?m)^    (?!private |public |\\s|\\})\\S").matcher(code);
        Check.due("members that are package-visible", all.find() ? 1 : 0, 0);
    }

    private static void methodLengths(String code) {
        Matcher m = Pattern.compile("(?ms)^(    |        )[\\w\\[\\]][^;{}]*\\) \\{.*?^\\1\\}").matcher(code);
        int methods = 0;
        while (m.find()) {
            methods++;
            long lines = m.group().lines().count();
            Check.due("lines of " + m.group().lines().findFirst().orElse(""), lines > 60 ? lines : 0, 0);
        }
        Check.due("methods found", methods > 50 ? 1 : 0, 1);
    }
}
