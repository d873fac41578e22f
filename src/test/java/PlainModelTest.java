/** Runs of calls, always the same ones, whose answers are compared with those of the plain model. */
public final class PlainModelTest {
    private static final int RUNS = 260, CALLS = 512;

    private final NightPlots x = new NightPlots();
    private final PlainModel y = new PlainModel();
    private final StringBuilder story = new StringBuilder();
    private long dice;
    private int calls = 0;

    private PlainModelTest(long seed) {
        dice = seed * 0x9E3779B97F4A7C15L + 12345;
    }

    public static void main(String[] args) {
        int runs = args.length > 0 ? Integer.parseInt(args[0]) : RUNS;
        for (int run = 1; run <= runs; run++) {
            new PlainModelTest(run).run();
        }
        Check.end("PlainModelTest");
    }

    private int pick(int n) {
        dice = dice * 6364136223846793005L + 1442695040888963407L;
        return (int) ((dice >>> 33) % n);
    }

    private void run() {
        tell(start());
        // Up to some twenty calls belong to one text, so that a run may end a little ahead of its calls.
        while (calls < CALLS - 60) {
            if (!step()) {
                System.out.println("run: " + story);
                return;
            }
        }
    }

    private boolean due(String call, int got, int want) {
        calls++;
        story.append(call).append(" -> ").append(want).append("; ");
        Check.due(call, got, want);
        return got == want;
    }

    // ---- texts

    private int plots = 6;
    private int houses = 0;

    private String start() {
        plots = 3 + pick(10);
        houses = 0;
        StringBuilder text = new StringBuilder("green " + plots);
        int manner = pick(5);
        if (manner == 4) {
            return fullStart();
        }
        for (int lines = 3 + pick(7); lines > 0; lines--) {
            text.append(';').append(line(manner));
        }
        if (houses > 1 && pick(2) == 0) {
            text.append(";feud ").append(pick(houses)).append(' ').append(pick(houses));
        }
        return text.append(';').append(law()).toString();
    }

    /** As many houses as there can be, on plots of their own. */
    private String fullStart() {
        StringBuilder text = new StringBuilder("green " + plots);
        String[] kinds = {"narrow", "cart", "stuck", "narrow"};
        for (int plot = pick(plots); houses < Math.min(8, plots - 1); plot = (plot + 1 + pick(2)) % plots) {
            text.append(';').append(kinds[pick(4)]).append(' ').append(plot);
            houses++;
        }
        text.append(";path ").append(pick(plots)).append(' ').append(pick(plots));
        return text.append(';').append(law()).toString();
    }

    /** By manner 0 many houses, by 1 many stuck ones, else of each something. */
    private String line(int manner) {
        int sort = pick(manner < 2 ? 7 : 10);
        if (sort < 5) {
            houses++;
            String[] kinds = {"narrow", "cart", "stuck", "wide", "cart"};
            return (manner == 1 && pick(4) != 0 ? "stuck" : kinds[sort]) + " " + pick(plots);
        }
        if (sort < 8) {
            return "path " + pick(plots) + " " + pick(plots);
        }
        return sort == 8 ? "crop " + pick(plots) + " " + pick(10) : "feud " + pick(houses + 1) + " " + pick(houses + 1);
    }

    private String law() {
        String[] laws = {"age", "turn", "rest", "lot " + (1 + pick(9999))};
        return laws[pick(4)];
    }

    /** A text, of which the lines with faults are left out now and then. */
    private void tell(String text) {
        StringBuilder good = new StringBuilder();
        for (String line : text.split(";")) {
            PlainModel trial = new PlainModel();
            String longer = good.isEmpty() ? line : good + ";" + line;
            for (int i = 0; i < longer.length() && longer.length() <= 200; i++) {
                trial.write(longer.charAt(i), 1);
            }
            if (pick(60) == 0 || trial.green() > 0) {
                good.setLength(0);
                good.append(longer);
            }
        }
        put(good.toString());
        due("fault()", x.fault(), y.fault());
        if (due("green()", x.green(), y.green()) && y.count(10) != 0) {
            due("erase()", x.erase(), y.erase());
        }
    }

    private void put(String text) {
        for (int from = 0; from < text.length(); from += 8) {
            String piece = text.substring(from, Math.min(text.length(), from + 8));
            long bytes = Check.packed(piece);
            due("write '" + piece + "'", x.write(bytes, piece.length()), y.write(bytes, piece.length()));
        }
    }

    private String scribble() {
        String[] parts = {"green", "crop", "narrow", "cart", "stuck", "wide", "path", "feud", "age", "turn", "rest",
            "lot", "clear", " ", ";", ";", "0", "1", "2", "5", "07", "11", "12", "003", "a", "?", "\u00ff", "  "};
        StringBuilder text = new StringBuilder();
        for (int n = pick(14); n > 0; n--) {
            text.append(parts[pick(parts.length)]).append(pick(3) == 0 ? "" : " ");
        }
        return text.toString();
    }

    private void other() {
        int sort = pick(5);
        if (sort == 0) {
            tell(start());
        } else if (sort == 1) {
            put(law());
            due("green()", x.green(), y.green());
            due("erase()", x.erase(), y.erase());
        } else {
            put(sort == 2 ? scribble() : line(3) + (pick(2) == 0 ? ";" : " ;clear;") + line(3));
            due("fault()", x.fault(), y.fault());
            due("green()", x.green(), y.green());
            due("erase()", x.erase(), y.erase());
        }
    }

    // ---- calls

    private int number(int most) {
        int[] odd = {-1, most, most + 1, Integer.MIN_VALUE, Integer.MAX_VALUE, 99, 100};
        return pick(25) == 0 ? odd[pick(odd.length)] : pick(most);
    }

    private int aHouse() {
        return number(Math.max(1, y.count(1)));
    }

    private int aPlot() {
        return number(y.count(0));
    }

    private boolean step() {
        if (pick(60) == 0) {
            other();
            return true;
        }
        return pick(3) == 0 ? stepAsked() : pick(2) == 0 ? stepNights() : stepForetold();
    }

    private boolean stepAsked() {
        int h = aHouse();
        int q = aPlot();
        int what = number(3);
        switch (pick(8)) {
            case 0:
                return due("plot " + q + " " + what, x.plot(q, what), y.plot(q, what));
            case 1:
                return due("house " + h + " " + what, x.house(h, what), y.house(h, what));
            case 2:
                int kind = number(5);
                return due("as " + h + " " + kind, x.as(h, kind), y.as(h, kind));
            case 3:
                return due("can " + h + " " + what, x.can(h, what), y.can(h, what));
            case 4:
                int sort = number(11);
                return due("count " + sort, x.count(sort), y.count(sort));
            case 5:
                int t = pick(3) == 0 ? number(100) : pick(9);
                return due("seen " + h + " " + q + " " + t, x.seen(h, q, t), y.seen(h, q, t));
            case 6:
                return pick(3) != 0 || due("forget", x.forget(), y.forget());
            default:
                return due("laws", x.laws(), y.laws());
        }
    }

    private boolean stepNights() {
        int h = aHouse();
        switch (pick(7)) {
            case 0:
                int n = number(100);
                return due("go " + n, x.go(n), y.go(n));
            case 1:
            case 2:
                int few = 1 + pick(3);
                return due("go " + few, x.go(few), y.go(few));
            case 3:
            case 4:
                int way = y.can(h, pick(3));
                int q = way >= 0 ? way : aPlot();
                return due("roll " + h + " " + q, x.roll(h, q), y.roll(h, q));
            case 5:
                int k = number(2);
                return due("keep " + k, x.keep(k), y.keep(k));
            default:
                int j = number(2);
                return pick(4) != 0 || due("back " + j, x.back(j), y.back(j));
        }
    }

    private boolean stepForetold() {
        int a = aHouse();
        int b = pick(4) == 0 ? aHouse() : (Math.max(a, 0) % 8 + 1 + pick(7)) % Math.max(1, y.count(1));
        int what = number(2);
        int days = number(100);
        String two = a + " " + b + " " + what;
        switch (pick(10)) {
            case 0:
                return due("later " + a + " " + days, x.later(a, days), y.later(a, days));
            case 1:
            case 2:
                return due("round " + what, x.round(what), y.round(what));
            case 3:
                return due("touch " + two, x.touch(a, b, what), y.touch(a, b, what));
            case 4:
                return due("when " + two, x.when(a, b, what), y.when(a, b, what));
            case 5:
                return due("often " + two + " " + days, x.often(a, b, what, days), y.often(a, b, what, days));
            case 6:
                return due("brings " + a + " " + days, x.brings(a, days), y.brings(a, days));
            case 7:
                return due("feuding " + days, x.feuding(days), y.feuding(days));
            case 8:
                return due("nearest " + two, x.nearest(a, b, what), y.nearest(a, b, what));
            default:
                String call = "mends " + a + " " + b + " " + days + " " + what;
                return due(call, x.mends(a, b, days, what), y.mends(a, b, days, what));
        }
    }
}
