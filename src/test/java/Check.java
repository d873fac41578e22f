import java.lang.reflect.Method;
import java.lang.reflect.Modifier;
import java.util.Arrays;
import java.util.Comparator;

/** What the tests share: counting answers that are not as due, running tests by their names, writing texts. */
final class Check {
    private static final int NONE = -1, NOT = -4;

    private static int right = 0;
    private static int wrong = 0;
    private static int tests = 0;
    private static String test = "";

    private Check() {
    }

    static void due(String what, long got, long want) {
        if (got == want) {
            right++;
            return;
        }
        wrong++;
        if (wrong <= 40) {
            System.out.println(test + what + " answered " + got + ", due is " + want);
        }
    }

    /** Runs the tests of a class: its static methods that take nothing and have a _ in their names. */
    static void runTests(Class<?> ofClass) {
        Method[] methods = ofClass.getDeclaredMethods();
        Arrays.sort(methods, Comparator.comparing(Method::getName));
        for (Method method : methods) {
            boolean isTest = Modifier.isStatic(method.getModifiers()) && !method.isSynthetic()
                && method.getParameterCount() == 0 && method.getName().indexOf('_') > 0;
            if (isTest) {
                runTest(method);
            }
        }
        test = "";
        due("whether there are tests in " + ofClass.getName(), tests > 0 ? 1 : 0, 1);
    }

    private static void runTest(Method method) {
        test = method.getName() + ": ";
        tests++;
        int before = right + wrong;
        try {
            method.invoke(null);
        } catch (ReflectiveOperationException e) {
            wrong++;
            System.out.println(test + "threw " + (e.getCause() == null ? e : e.getCause()));
        }
        due("whether anything was looked at", right + wrong > before ? 1 : 0, 1);
    }

    /** The bytes of a piece of text, as write takes them. */
    static long packed(String piece) {
        long bytes = 0;
        for (int i = 0; i < piece.length(); i++) {
            bytes |= (long) (piece.charAt(i) & 255) << 8 * i;
        }
        return bytes;
    }

    static void write(NightPlots x, String text) {
        for (int from = 0; from < text.length(); from += 8) {
            String piece = text.substring(from, Math.min(text.length(), from + 8));
            x.write(packed(piece), piece.length());
        }
    }

    static void tell(NightPlots x, String text) {
        write(x, text);
        due("green of '" + text + "'", x.green(), text.split(";", -1).length);
    }

    static NightPlots told(String text) {
        NightPlots x = new NightPlots();
        tell(x, text);
        return x;
    }

    static void roll(NightPlots x, int house, int plot) {
        int nights = x.count(5);
        due("roll(" + house + ", " + plot + ")", x.roll(house, plot), nights + 1);
    }

    /** The fault of a text on a new object: its place, and that green does as the fault asks. */
    static void fault(String text, int want) {
        faultBehind("", text, want);
    }

    static void faultBehind(String ahead, String text, int want) {
        NightPlots x = new NightPlots();
        if (!ahead.isEmpty()) {
            tell(x, ahead);
        }
        write(x, text);
        String what = " of '" + text + "' behind '" + ahead + "'";
        due("fault" + what, x.fault(), want);
        due("bytes" + what, x.count(10), text.length());
        due("green" + what, x.green(), want == NONE ? text.split(";", -1).length : NOT);
        due("bytes behind green" + what, x.count(10), want == NONE ? 0 : text.length());
    }

    static void end(String name) {
        String named = tests == 0 ? "" : tests + " tests, ";
        System.out.println(name + ": " + named + right + " answers as due, " + wrong + " not");
        if (wrong != 0) {
            System.exit(1);
        }
    }
}
