import java.io.IOException;
import java.lang.reflect.Method;
import java.lang.reflect.Modifier;
import java.nio.file.Files;
import java.nio.file.Path;
import java.util.List;
import java.util.regex.Matcher;
import java.util.regex.Pattern;

/** What README.md says: its run of calls, each with the answer told behind it, and that each call is told. */
public final class ReadmeTest {
    private static final List<String> NAMES = List.of("NONE", "UNKNOWN", "OUTSIDE", "NOT", "FULL");
    private static final Pattern CALL = Pattern.compile("x\\.(\\w+)\\(([-0-9, ]*)\\);\\s+// (-?\\d+|[A-Z]+)\\b.*");
    private static final Pattern WRITE = Pattern.compile("write\\(x, \"([^\"]*)\"\\);");

    private static NightPlots x;

    public static void main(String[] args) throws IOException, ReflectiveOperationException {
        String page = Files.readString(Path.of("README.md"));
        run(page);
        eachCallIsTold(page);
        Check.end("ReadmeTest");
    }

    private static void run(String page) throws ReflectiveOperationException {
        Matcher run = Pattern.compile("(?s)```java\n(NightPlots x = .*?)```").matcher(page);
        Check.due("whether there is a run of calls", run.find() ? 1 : 0, 1);
        for (String line : run.group(1).split("\n")) {
            step(line);
        }
    }

    private static void step(String line) throws ReflectiveOperationException {
        Matcher call = CALL.matcher(line);
        Matcher write = WRITE.matcher(line);
        if (call.matches()) {
            Check.due(line, answer(call.group(1), call.group(2)), number(call.group(3)));
        } else if (write.matches()) {
            Check.write(x, write.group(1));
        } else {
            Check.due("reading '" + line + "'", line.equals("NightPlots x = new NightPlots();") ? 1 : 0, 1);
            x = new NightPlots();
        }
    }

    private static int answer(String name, String numbers) throws ReflectiveOperationException {
        String[] parts = numbers.isEmpty() ? new String[0] : numbers.split(", ");
        Class<?>[] types = new Class<?>[parts.length];
        Object[] values = new Object[parts.length];
        for (int i = 0; i < parts.length; i++) {
            types[i] = int.class;
            values[i] = Integer.valueOf(parts[i]);
        }
        return (int) NightPlots.class.getMethod(name, types).invoke(x, values);
    }

    private static int number(String told) {
        int name = NAMES.indexOf(told);
        return name < 0 ? Integer.parseInt(told) : -1 - name;
    }

    private static void eachCallIsTold(String page) {
        for (Method method : NightPlots.class.getDeclaredMethods()) {
            boolean isTold = page.contains("`" + method.getName() + "(");
            if (Modifier.isPublic(method.getModifiers())) {
                Check.due("whether " + method.getName() + " is told", isTold ? 1 : 0, 1);
            }
        }
        for (String name : NAMES) {
            Check.due("whether " + name + " is told", page.contains("`" + name + "` (" + number(name)) ? 1 : 0, 1);
        }
    }
}
