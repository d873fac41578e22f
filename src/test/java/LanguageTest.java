import java.io.IOException;
import java.nio.file.Files;
import java.nio.file.Path;
import java.util.ArrayList;
import java.util.List;
import java.util.Map;
import java.util.Set;
import java.util.TreeMap;
import java.util.TreeSet;
import java.util.regex.Matcher;
import java.util.regex.Pattern;

/** The rules of LANGUAGE.md that can be read off the source of the class. */
public final class LanguageTest {
    private static final String FACE = "write|erase|fault|green|plot|house|as|can|go|roll|keep|back|later|round|touch"
        + "|when|often|brings|feuding|nearest|mends|seen|forget|laws|count";

    public static void main(String[] args) throws IOException {
        String source = Files.readString(Path.of("src/main/java/NightPlots.java"));
        String code = source.replaceAll("(?s)/\\*.*?\\*/", "").replaceAll("//[^\n]*", "")
            .replaceAll("\"[^\"\n]*\"", "\"\"").replaceAll("'[^'\n]*'", "' '");
        none(code, "\\b(throw|throws|try|catch|finally|synchronized|assert|native|volatile|yield|var|protected)\\b");
        none(code, "->|::");
        none(code, "\\b(double|float|Object|Random|Thread|System\\.(?!arraycopy)|Exact)\\b");
        none(code, "^\\s*package\\b");
        none(code, "import (?!java\\.util\\.Arrays;)");
        none(code, "\\b(equals|hashCode|toString)\\b");
        none(code, "static \\{");
        none(code, "private [\\w\\[\\]. ]+ (" + FACE + ")\\(");
        none(code, "\n        (?!return)[\\w\\[\\]]+ (" + FACE + ")\\(");
        none(code, "[^\\x00-\\x7f]");
        face(code);
        methods(code);
        classes(code);
        Check.end("LanguageTest");
    }

    private static void none(String code, String pattern) {
        Matcher m = Pattern.compile(pattern, Pattern.MULTILINE).matcher(code);
        boolean found = m.find();
        Check.due("looking for " + pattern + (found ? ": '" + m.group() + "'" : ""), found ? 1 : 0, 0);
    }

    private static void face(String code) {
        Matcher m = Pattern.compile("(?m)^    public (?:static final )?int (\\w+)").matcher(code);
        int methods = 0;
        while (m.find()) {
            methods += m.group(1).matches(FACE) ? 1 : 0;
        }
        Check.due("methods of the face", methods, 25);
        Matcher all = Pattern.compile("(?m)^    (?!private |public |\\s|\\})\\S").matcher(code);
        Check.due("members that are package-visible", all.find() ? 1 : 0, 0);
    }

    private static void methods(String code) {
        Map<String, Set<String>> calls = new TreeMap<>();
        Matcher m = Pattern.compile("(?ms)^(    |        )[\\w\\[\\]][^;{}]*?(\\w+)\\(([^;{}]*)\\) \\{.*?^\\1\\}").matcher(code);
        while (m.find()) {
            String head = m.group().lines().findFirst().orElse("");
            long lines = m.group().lines().count();
            long parameters = m.group(3).isEmpty() ? 0 : m.group(3).split(",").length;
            Check.due("lines of " + head, lines > 60 ? lines : 0, 0);
            Check.due("parameters of " + head, parameters > 7 ? parameters : 0, 0);
            calls.computeIfAbsent(m.group(2), name -> new TreeSet<>()).addAll(called(m.group(), m.group(2)));
        }
        Check.due("whether methods are found", calls.size() > 60 ? 1 : 0, 1);
        Check.due("whether calls are found", calls.get("mends").contains("firstMeeting") ? 1 : 0, 1);
        for (String name : calls.keySet()) {
            int depth = depth(name, calls, List.of());
            Check.due("whether the calls of " + name + " go at most eight deep: " + depth, depth > 8 ? 0 : 1, 1);
        }
    }

    private static Set<String> called(String method, String own) {
        Set<String> names = new TreeSet<>();
        Matcher m = Pattern.compile("(?<!new )\\b(\\w+)\\(").matcher(method);
        while (m.find()) {
            names.add(m.group(1));
        }
        names.remove(own);
        return names;
    }

    /** Methods of one name are taken as one; a call of what stands open already is a recursion. */
    private static int depth(String name, Map<String, Set<String>> calls, List<String> open) {
        int deepest = 0;
        List<String> then = new ArrayList<>(open);
        then.add(name);
        for (String next : calls.getOrDefault(name, Set.of())) {
            if (calls.containsKey(next) && !then.contains(next)) {
                deepest = Math.max(deepest, depth(next, calls, then));
            }
        }
        return deepest + 1;
    }

    /** An object made by a call would be counted as often as it is called. */
    private static void classes(String code) {
        Matcher m = Pattern.compile("(?m)^ *(?:public|private static) final class \\w+").matcher(code);
        int classes = 0;
        while (m.find()) {
            classes++;
        }
        Check.due("classes", classes > 12 ? classes : 0, 0);
        Check.due("classes of another form", Pattern.compile("\\b(class|enum|record|interface) ").matcher(code)
            .results().count(), classes);
        none(code, "^ ++(?!(private )?final |kept\\[k\\] = new Standing\\(told\\);)[^\n]*\\bnew\\b");
        none(code, "\\bArrays\\.(?!fill\\()");
        none(code, "\\b(Math|Integer|Long)\\.(?!(abs|max|min)\\()");
    }
}
