/** What the tests share: counting answers that are not as due, and writing texts. */
final class Check {
    private static int right = 0;
    private static int wrong = 0;

    private Check() {
    }

    static void due(String what, long got, long want) {
        if (got == want) {
            right++;
            return;
        }
        wrong++;
        if (wrong <= 40) {
            System.out.println(what + " answered " + got + ", due is " + want);
        }
    }

    /** The bytes of a piece of text, as write takes them. */
    static long packed(String piece) {
        long bytes = 0;
        for (int i = 0; i < piece.length(); i++) {
            bytes |= (long) (piece.charAt(i) & 255) << 8 * i;
        }
        return bytes;
    }

    static void write(NightPlots x, String text) {
        for (int from = 0; from < text.length(); from += 8) {
            String piece = text.substring(from, Math.min(text.length(), from + 8));
            x.write(packed(piece), piece.length());
        }
    }

    static void tell(NightPlots x, String text) {
        write(x, text);
        due("green of '" + text + "'", x.green(), text.split(";", -1).length);
    }

    static NightPlots told(String text) {
        NightPlots x = new NightPlots();
        tell(x, text);
        return x;
    }

    static void end(String name) {
        System.out.println(name + ": " + right + " answers as due, " + wrong + " not");
        if (wrong != 0) {
            System.exit(1);
        }
    }
}
