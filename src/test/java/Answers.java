import java.util.ArrayList;
import java.util.List;
import java.util.function.Supplier;
import java.util.function.ToIntFunction;

/** All that an object answers, one answer after another, by some 250 calls: the object is used up by it. */
final class Answers {
    private static final int MOST_PLOTS = 12, MOST_HOUSES = 8;

    private final NightPlots x;
    private final List<String> rows = new ArrayList<>();

    private Answers(NightPlots x) {
        this.x = x;
    }

    static List<String> of(NightPlots x) {
        Answers answers = new Answers(x);
        answers.asked();
        answers.foretold();
        for (int k = 0; k < 2; k++) {
            answers.put("back(" + k + ")", x.back(k));
            answers.standing();
        }
        answers.put("go(1)", x.go(1));
        answers.standing();
        answers.put("forget()", x.forget());
        answers.put("green()", x.green());
        answers.standing();
        answers.put("erase()", x.erase());
        return answers.rows;
    }

    /** Looks whether a call answers as is due, and whether all is then as it is on an object without it. */
    static void unchanged(String what, Supplier<NightPlots> maker, ToIntFunction<NightPlots> call, int want) {
        NightPlots called = maker.get();
        Check.due(what, call.applyAsInt(called), want);
        List<String> before = of(maker.get());
        List<String> after = of(called);
        for (int i = 0; i < before.size(); i++) {
            boolean same = before.get(i).equals(after.get(i));
            Check.due(what + " changes '" + before.get(i) + "' to '" + after.get(i) + "'", same ? 0 : 1, 0);
        }
    }

    private void put(String call, int answer) {
        rows.add(call + " -> " + answer);
    }

    private void asked() {
        for (int plot = 0; plot < MOST_PLOTS; plot++) {
            put("plot(" + plot + ", 1)", x.plot(plot, 1));
        }
        for (int house = 0; house < MOST_HOUSES; house++) {
            put("house(" + house + ", 0)", x.house(house, 0));
            put("as(" + house + ", 0)", x.as(house, 0));
        }
        put("fault()", x.fault());
        standing();
    }

    private void standing() {
        for (int what = 0; what <= 10; what++) {
            put("count(" + what + ")", x.count(what));
        }
        for (int house = 0; house < MOST_HOUSES; house++) {
            put("house(" + house + ", 1)", x.house(house, 1));
            put("house(" + house + ", 2)", x.house(house, 2));
        }
    }

    private void foretold() {
        put("round(0)", x.round(0));
        put("round(1)", x.round(1));
        put("feuding(99)", x.feuding(99));
        put("laws()", x.laws());
        for (int house = 0; house < MOST_HOUSES; house++) {
            put("later(" + house + ", 99)", x.later(house, 99));
            put("can(" + house + ", 0)", x.can(house, 0));
        }
        for (int other = 1; other < MOST_HOUSES; other++) {
            put("when(0, " + other + ", 0)", x.when(0, other, 0));
            put("nearest(0, " + other + ", 1)", x.nearest(0, other, 1));
            put("mends(0, " + other + ", 9, 1)", x.mends(0, other, 9, 1));
        }
    }
}
