import java.util.function.ToIntFunction;

/** "Refused, and nothing changes: UNKNOWN .., OUTSIDE .., NOT .., FULL: the first of these that fits." */
public final class RefusedTest {
    private static final int UNKNOWN = -2, OUTSIDE = -3, NOT = -4, FULL = -5;
    private static final int LEAST = Integer.MIN_VALUE, MOST = Integer.MAX_VALUE;
    private static final String[] LAWS = {"age", "turn", "rest", "lot 4"};

    public static void main(String[] args) {
        Check.runTests(RefusedTest.class);
        Check.end("RefusedTest");
    }

    /** On objects with six houses on eleven plots, by each law: the answer, and that nothing changes. */
    private static void refused(String what, ToIntFunction<NightPlots> call, int want) {
        for (String law : LAWS) {
            Answers.unchanged(what + " by " + law, () -> Situations.used(law), call, want);
        }
    }

    private static void refusedOfGoodText(String what, ToIntFunction<NightPlots> call, int want) {
        for (String law : LAWS) {
            Answers.unchanged(what + " by " + law, () -> Situations.usedWithGoodText(law), call, want);
        }
    }

    private static void refusedWhenFull(String what, ToIntFunction<NightPlots> call, int want) {
        for (String law : LAWS) {
            Answers.unchanged(what + " when full, by " + law, () -> Situations.full(law), call, want);
        }
    }

    private static void refusedWhenNew(String what, ToIntFunction<NightPlots> call, int want) {
        Answers.unchanged(what + " when new", NightPlots::new, call, want);
    }

    static void answers_areAsTheFaceHasThem() {
        int[] answers = {NightPlots.NONE, NightPlots.UNKNOWN, NightPlots.OUTSIDE, NightPlots.NOT, NightPlots.FULL};
        for (int i = 0; i < answers.length; i++) {
            Check.due("constant " + i, answers[i], -1 - i);
        }
    }

    // ---- UNKNOWN: no such PLOT

    static void unknown_plotOfPlot() {
        for (int plot : new int[] {LEAST, -1, 11, 12, MOST}) {
            refused("plot(" + plot + ", 0)", x -> x.plot(plot, 0), UNKNOWN);
        }
        refusedWhenNew("plot(6, 0)", x -> x.plot(6, 0), UNKNOWN);
    }

    static void unknown_plotOfRoll() {
        for (int plot : new int[] {LEAST, -1, 11, 12, MOST}) {
            refused("roll(1, " + plot + ")", x -> x.roll(1, plot), UNKNOWN);
        }
    }

    static void unknown_plotOfSeen() {
        for (int plot : new int[] {LEAST, -1, 11, 12, MOST}) {
            refused("seen(1, " + plot + ", 0)", x -> x.seen(1, plot, 0), UNKNOWN);
        }
    }

    // ---- UNKNOWN: no such HOUSE

    static void unknown_houseWithOneNumberMore() {
        for (int house : new int[] {LEAST, -1, 6, 7, 8, MOST}) {
            refused("house " + house, x -> x.house(house, 0), UNKNOWN);
            refused("as " + house, x -> x.as(house, 0), UNKNOWN);
            refused("can " + house, x -> x.can(house, 0), UNKNOWN);
            refused("roll " + house, x -> x.roll(house, 1), UNKNOWN);
            refused("later " + house, x -> x.later(house, 0), UNKNOWN);
            refused("brings " + house, x -> x.brings(house, 1), UNKNOWN);
            refused("seen " + house, x -> x.seen(house, 0, 0), UNKNOWN);
        }
    }

    static void unknown_eitherOfTwoHouses() {
        for (int house : new int[] {LEAST, -1, 6, 7, 8, MOST}) {
            refused("touch, one " + house, x -> x.touch(house, 0, 0), UNKNOWN);
            refused("touch, other " + house, x -> x.touch(0, house, 0), UNKNOWN);
            refused("when, one " + house, x -> x.when(house, 0, 0), UNKNOWN);
            refused("when, other " + house, x -> x.when(0, house, 0), UNKNOWN);
            refused("often, one " + house, x -> x.often(house, 0, 0, 1), UNKNOWN);
            refused("often, other " + house, x -> x.often(0, house, 0, 1), UNKNOWN);
            refused("nearest, one " + house, x -> x.nearest(house, 0, 0), UNKNOWN);
            refused("nearest, other " + house, x -> x.nearest(0, house, 0), UNKNOWN);
            refused("mends, one " + house, x -> x.mends(house, 0, 0, 0), UNKNOWN);
            refused("mends, other " + house, x -> x.mends(0, house, 0, 0), UNKNOWN);
        }
    }

    static void unknown_houseWhereThereIsNone() {
        refusedWhenNew("house", x -> x.house(0, 0), UNKNOWN);
        refusedWhenNew("as", x -> x.as(0, 0), UNKNOWN);
        refusedWhenNew("can", x -> x.can(0, 0), UNKNOWN);
        refusedWhenNew("roll", x -> x.roll(0, 0), UNKNOWN);
        refusedWhenNew("later", x -> x.later(0, 0), UNKNOWN);
        refusedWhenNew("touch", x -> x.touch(0, 1, 0), UNKNOWN);
        refusedWhenNew("when", x -> x.when(0, 1, 0), UNKNOWN);
        refusedWhenNew("often", x -> x.often(0, 1, 0, 1), UNKNOWN);
        refusedWhenNew("brings", x -> x.brings(0, 1), UNKNOWN);
        refusedWhenNew("nearest", x -> x.nearest(0, 1, 0), UNKNOWN);
        refusedWhenNew("mends", x -> x.mends(0, 1, 0, 0), UNKNOWN);
        refusedWhenNew("seen", x -> x.seen(0, 0, 0), UNKNOWN);
    }

    static void unknown_houseOfAnEarlierTextBehindClear() {
        NightPlots x = Check.told("narrow 0;narrow 2");
        Check.tell(x, "clear;narrow 4");
        Check.due("house 0", x.house(0, 1), 4);
        Check.due("house 1", x.house(1, 1), UNKNOWN);
    }

    static void unknown_keepAndBack() {
        for (int k : new int[] {LEAST, -1, 2, 3, MOST}) {
            refused("keep " + k, x -> x.keep(k), UNKNOWN);
            refused("back " + k, x -> x.back(k), UNKNOWN);
        }
    }

    // ---- OUTSIDE: another number is not as told

    static void outside_bytesOfWrite() {
        for (int n : new int[] {LEAST, -1, 0, 9, 200, MOST}) {
            refused("write " + n, x -> x.write(0x2020202020202020L, n), OUTSIDE);
            refusedOfGoodText("write " + n, x -> x.write(0x2020202020202020L, n), OUTSIDE);
        }
    }

    static void outside_whatOfPlot() {
        for (int what : new int[] {LEAST, -1, 2, MOST}) {
            refused("plot(0, " + what + ")", x -> x.plot(0, what), OUTSIDE);
        }
    }

    static void outside_whatOfHouse() {
        for (int what : new int[] {LEAST, -1, 3, MOST}) {
            refused("house(0, " + what + ")", x -> x.house(0, what), OUTSIDE);
        }
    }

    static void outside_kindOfAs() {
        for (int kind : new int[] {LEAST, -1, 5, MOST}) {
            refused("as(0, " + kind + ")", x -> x.as(0, kind), OUTSIDE);
        }
    }

    static void outside_iOfCan() {
        for (int i : new int[] {LEAST, -1}) {
            refused("can(0, " + i + ")", x -> x.can(0, i), OUTSIDE);
        }
    }

    static void outside_nightsOfGo() {
        for (int n : new int[] {LEAST, -1, 0, 100, MOST}) {
            refused("go " + n, x -> x.go(n), OUTSIDE);
        }
    }

    static void outside_tOfLater() {
        for (int t : new int[] {LEAST, -1, 100, MOST}) {
            refused("later(0, " + t + ")", x -> x.later(0, t), OUTSIDE);
        }
    }

    static void outside_whatOfRound() {
        for (int what : new int[] {LEAST, -1, 2, MOST}) {
            refused("round " + what, x -> x.round(what), OUTSIDE);
            refusedWhenNew("round " + what, x -> x.round(what), OUTSIDE);
        }
    }

    static void outside_whatOfTwoHouses() {
        for (int what : new int[] {LEAST, -1, 2, MOST}) {
            refused("touch, what " + what, x -> x.touch(0, 1, what), OUTSIDE);
            refused("when, what " + what, x -> x.when(0, 1, what), OUTSIDE);
            refused("often, what " + what, x -> x.often(0, 1, what, 1), OUTSIDE);
            refused("nearest, what " + what, x -> x.nearest(0, 1, what), OUTSIDE);
            refused("mends, what " + what, x -> x.mends(0, 1, 0, what), OUTSIDE);
        }
    }

    static void outside_oneAndItself() {
        for (int house = 0; house < 6; house++) {
            int one = house;
            refused("touch", x -> x.touch(one, one, 0), OUTSIDE);
            refused("when", x -> x.when(one, one, 0), OUTSIDE);
            refused("often", x -> x.often(one, one, 0, 1), OUTSIDE);
            refused("nearest", x -> x.nearest(one, one, 0), OUTSIDE);
            refused("mends", x -> x.mends(one, one, 0, 0), OUTSIDE);
        }
    }

    static void outside_days() {
        for (int days : new int[] {LEAST, -1, 0, 100, MOST}) {
            refused("often, days " + days, x -> x.often(0, 1, 0, days), OUTSIDE);
            refused("brings, days " + days, x -> x.brings(0, days), OUTSIDE);
            refused("feuding " + days, x -> x.feuding(days), OUTSIDE);
            refusedWhenNew("feuding " + days, x -> x.feuding(days), OUTSIDE);
        }
    }

    static void outside_nightsOfMends() {
        for (int nights : new int[] {LEAST, -1, 100, MOST}) {
            refused("mends, nights " + nights, x -> x.mends(0, 1, nights, 0), OUTSIDE);
        }
    }

    static void outside_nightOfSeen() {
        for (int t : new int[] {LEAST, -1, 100, MOST}) {
            refused("seen, night " + t, x -> x.seen(0, 0, t), OUTSIDE);
        }
    }

    static void outside_whatOfCount() {
        for (int what : new int[] {LEAST, -1, 11, 12, MOST}) {
            refused("count " + what, x -> x.count(what), OUTSIDE);
            refusedWhenNew("count " + what, x -> x.count(what), OUTSIDE);
        }
    }

    // ---- NOT: not now, as told

    static void not_greenOfAFault() {
        refused("green", NightPlots::green, NOT);
        refusedWhenNew("green", NightPlots::green, NOT);
    }

    static void not_backOfNothing() {
        refused("back 1", x -> x.back(1), NOT);
        refusedOfGoodText("back 0", x -> x.back(0), NOT);
        refusedOfGoodText("back 1", x -> x.back(1), NOT);
        refusedWhenNew("back 0", x -> x.back(0), NOT);
    }

    static void not_rollOfAStuckOne() {
        refused("roll a stuck one", x -> x.roll(2, 4), NOT);
        refused("roll a stuck one", x -> x.roll(5, 9), NOT);
    }

    static void not_rollToWhereItStands() {
        refused("roll to its own plot", x -> x.roll(1, x.house(1, 1)), NOT);
        refused("roll a wide one to its own plot", x -> x.roll(3, x.house(3, 1)), NOT);
    }

    static void not_rollOntoATakenPlot() {
        refused("roll onto a stuck one", x -> x.roll(4, 8), NOT);
        refused("roll onto a stuck one", x -> x.roll(4, 5), NOT);
    }

    static void not_rollTooFar() {
        refusedOfGoodText("roll two on", x -> x.roll(2, (x.house(2, 1) + 2) % 12), NOT);
        refusedOfGoodText("roll two back", x -> x.roll(2, (x.house(2, 1) + 10) % 12), NOT);
    }

    static void not_asAnotherKind() {
        int[][] others = {{0, 2}, {0, 3}, {0, 4}, {1, 3}, {1, 4}, {2, 2}, {2, 4}, {3, 1}, {3, 2}, {3, 3}};
        for (int[] other : others) {
            refused("as(" + other[0] + ", " + other[1] + ")", x -> x.as(other[0], other[1]), NOT);
        }
    }

    // ---- FULL

    static void full_write() {
        for (int n = 1; n <= 8; n++) {
            int bytes = n;
            refusedWhenFull("write " + n, x -> x.write(0x2020202020202020L, bytes), FULL);
        }
    }

    static void full_go() {
        refusedWhenFull("go 1", x -> x.go(1), FULL);
        refusedWhenFull("go 99", x -> x.go(99), FULL);
    }

    static void full_roll() {
        refusedWhenFull("roll", x -> x.roll(0, x.can(0, 0)), FULL);
    }

    static void full_seen() {
        refusedWhenFull("seen", x -> x.seen(1, 3, 0), FULL);
        refusedWhenFull("seen", x -> x.seen(0, 7, 99), FULL);
    }

    // ---- the first of these that fits

    static void first_unknownAheadOfOutside() {
        refused("plot", x -> x.plot(11, 2), UNKNOWN);
        refused("house", x -> x.house(6, 3), UNKNOWN);
        refused("as", x -> x.as(6, 5), UNKNOWN);
        refused("can", x -> x.can(6, -1), UNKNOWN);
        refused("later", x -> x.later(6, 100), UNKNOWN);
        refused("brings", x -> x.brings(6, 0), UNKNOWN);
        refused("seen, no house", x -> x.seen(6, 0, 100), UNKNOWN);
        refused("seen, no plot", x -> x.seen(0, 11, 100), UNKNOWN);
    }

    static void first_unknownAheadOfOutsideOfTwoHouses() {
        refused("touch", x -> x.touch(0, 6, 2), UNKNOWN);
        refused("touch", x -> x.touch(6, 6, 0), UNKNOWN);
        refused("when", x -> x.when(6, 0, 2), UNKNOWN);
        refused("when", x -> x.when(6, 6, 0), UNKNOWN);
        refused("often", x -> x.often(0, 6, 2, 0), UNKNOWN);
        refused("often", x -> x.often(6, 6, 0, 1), UNKNOWN);
        refused("nearest", x -> x.nearest(6, 0, 2), UNKNOWN);
        refused("nearest", x -> x.nearest(6, 6, 0), UNKNOWN);
        refused("mends", x -> x.mends(0, 6, 100, 2), UNKNOWN);
        refused("mends", x -> x.mends(6, 6, 0, 0), UNKNOWN);
    }

    static void first_unknownAheadOfNot() {
        refused("roll a stuck one to no plot", x -> x.roll(2, 11), UNKNOWN);
        refused("roll none", x -> x.roll(6, 5), UNKNOWN);
        refusedWhenNew("back 2", x -> x.back(2), UNKNOWN);
    }

    static void first_unknownAheadOfFull() {
        refusedWhenFull("roll none", x -> x.roll(2, 1), UNKNOWN);
        refusedWhenFull("roll to no plot", x -> x.roll(0, 8), UNKNOWN);
        refusedWhenFull("seen, no house", x -> x.seen(2, 0, 0), UNKNOWN);
        refusedWhenFull("seen, no plot", x -> x.seen(0, 8, 0), UNKNOWN);
        refusedWhenFull("seen, no plot, outside", x -> x.seen(0, 8, 100), UNKNOWN);
    }

    static void first_outsideAheadOfFull() {
        refusedWhenFull("write 0", x -> x.write(0, 0), OUTSIDE);
        refusedWhenFull("write 9", x -> x.write(0, 9), OUTSIDE);
        refusedWhenFull("go 0", x -> x.go(0), OUTSIDE);
        refusedWhenFull("go 100", x -> x.go(100), OUTSIDE);
        refusedWhenFull("seen on night -1", x -> x.seen(0, 0, -1), OUTSIDE);
        refusedWhenFull("seen on night 100", x -> x.seen(0, 0, 100), OUTSIDE);
    }

    static void first_notAheadOfFull() {
        refusedWhenFull("roll a stuck one", x -> x.roll(1, 4), NOT);
        refusedWhenFull("roll too far", x -> x.roll(0, 5), NOT);
        refusedWhenFull("back 0", x -> x.back(0), NOT);
    }
}
