import java.util.function.Supplier;
import java.util.function.ToIntFunction;

/** Each sentence of the terms, but for THE TEXT (TextTest has it), by the cases at its bounds. */
public final class TermsTest {
    private static final int NONE = -1, UNKNOWN = -2, NOT = -4;
    private static final String[] LAWS = {"age", "turn", "rest", "lot 4"};
    /** House 1 cannot roll on night 2, as a stuck one and house 2 are beside it; then house 2 makes room. */
    private static final String IN_THE_WAY = "green 12;narrow 0;narrow 6;narrow 7;stuck 5;";

    public static void main(String[] args) {
        Check.runTests(TermsTest.class);
        Check.end("TermsTest");
    }

    private static void due(String what, long got, long want) {
        Check.due(what, got, want);
    }

    private static void ways(String text, int house, int... want) {
        NightPlots x = Check.told(text);
        for (int i = 0; i < want.length; i++) {
            due("way " + i + " of house " + house + " in '" + text + "'", x.can(house, i), want[i]);
        }
        due("one way more in '" + text + "'", x.can(house, want.length), NONE);
        due("how many ways in '" + text + "'", x.as(house, 0), want.length);
    }

    /** Where all stand night by night. */
    private static void nights(String text, int[][] want) {
        NightPlots x = Check.told(text);
        for (int night = 1; night <= want.length; night++) {
            due("nights of '" + text + "'", x.go(1), night);
            for (int house = 0; house < want[night - 1].length; house++) {
                due("night " + night + " of '" + text + "': house " + house, x.house(house, 1), want[night - 1][house]);
            }
        }
    }

    // ---- "PLOTS are 0 .. p less 1 in a ring (p 3 .. 12; 6 at first), each with a CROP (0 .. 9; 1 at first)"

    static void plots_6AtFirst() {
        NightPlots x = new NightPlots();
        due("how many", x.count(0), 6);
        due("empty", x.count(9), 63);
        due("the last one", x.plot(5, 0), NONE);
        due("none behind it", x.plot(6, 0), UNKNOWN);
    }

    static void plots_0ToPLess1() {
        for (int p = 3; p <= 12; p++) {
            NightPlots x = Check.told("green " + p);
            due("how many of " + p, x.count(0), p);
            due("empty of " + p, x.count(9), (1 << p) - 1);
            due("the first one of " + p, x.plot(0, 0), NONE);
            due("the last one of " + p, x.plot(p - 1, 0), NONE);
            due("one behind it of " + p, x.plot(p, 0), UNKNOWN);
            due("one ahead of all of " + p, x.plot(-1, 0), UNKNOWN);
        }
    }

    static void plots_inARing() {
        for (int p = 3; p <= 12; p++) {
            ways("green " + p + ";narrow " + (p - 1), 0, 0, p - 2);
            ways("green " + p + ";narrow 0", 0, 1, p - 1);
        }
    }

    static void crop_1AtFirst() {
        for (int p = 3; p <= 12; p++) {
            NightPlots x = Check.told("green " + p);
            for (int plot = 0; plot < p; plot++) {
                due("crop", x.plot(plot, 1), 1);
            }
        }
    }

    static void crop_0To9() {
        NightPlots x = Check.told("crop 0 0;crop 5 9");
        due("crop 0", x.plot(0, 1), 0);
        due("crop 5", x.plot(5, 1), 9);
        due("crop 1", x.plot(1, 1), 1);
    }

    // ---- "HOUSES are 0, 1 .. as they come, 8 at most (none at first): of a KIND, .., at a PLOT"

    static void houses_noneAtFirst() {
        NightPlots x = new NightPlots();
        due("how many", x.count(1), 0);
        due("house 0", x.house(0, 0), UNKNOWN);
    }

    static void houses_asTheyComeOf4Kinds() {
        NightPlots x = Check.told("green 12;wide 8;stuck 0");
        Check.tell(x, "cart 5;narrow 2");
        int[] places = {8, 0, 5, 2};
        for (int house = 0; house < 4; house++) {
            due("kind of " + house, x.house(house, 0), 3 - house);
            due("plot of " + house, x.house(house, 1), places[house]);
        }
        due("no more", x.house(4, 0), UNKNOWN);
    }

    static void houses_8AtMost() {
        NightPlots x = Check.told("green 12;narrow 11;cart 1;stuck 2;narrow 3;cart 4;stuck 5;narrow 6;wide 8");
        due("how many", x.count(1), 8);
        due("house 7", x.house(7, 1), 8);
        due("house 8", x.house(8, 1), UNKNOWN);
        due("empty", x.count(9), 1 | 1 << 7 | 1 << 10);
    }

    static void wide_onTheNextPlotToo() {
        NightPlots x = Check.told("green 7;wide 3");
        int[] want = {NONE, NONE, NONE, 0, 0, NONE, NONE};
        for (int plot = 0; plot < 7; plot++) {
            due("plot " + plot, x.plot(plot, 0), want[plot]);
        }
        due("its plot", x.house(0, 1), 3);
    }

    static void wide_behindTheLastOne0() {
        for (int p = 3; p <= 12; p++) {
            NightPlots x = Check.told("green " + p + ";wide " + (p - 1));
            due("the last one of " + p, x.plot(p - 1, 0), 0);
            due("0 of " + p, x.plot(0, 0), 0);
            due("1 of " + p, x.plot(1, 0), NONE);
            due("its plot", x.house(0, 1), p - 1);
            due("empty", x.count(9), (1 << p) - 1 - 1 - (1 << p - 1));
        }
    }

    static void paths_noneAtFirst6AtMost() {
        NightPlots x = new NightPlots();
        due("at first", x.count(2), 0);
        Check.tell(x, "path 0 1;path 0 1;path 0 1;path 0 1;path 0 1");
        due("five", x.count(2), 5);
        Check.tell(x, "path 0 2");
        due("six", x.count(2), 6);
    }

    static void feuds_noneAtFirst6AtMost() {
        NightPlots x = new NightPlots();
        due("at first", x.count(3), 0);
        Check.tell(x, "narrow 0;narrow 3;feud 0 1;feud 0 1;feud 0 1;feud 0 1;feud 0 1");
        due("five", x.count(3), 5);
        Check.tell(x, "feud 1 0");
        due("six", x.count(3), 6);
    }

    static void law_ageAtFirst() {
        NightPlots x = new NightPlots();
        due("law", x.count(4), 0);
        due("turn", x.count(6), NONE);
        due("x", x.count(7), NONE);
    }

    static void law_0To3() {
        for (int law = 0; law < 4; law++) {
            NightPlots x = Check.told("narrow 0;" + LAWS[law]);
            due("law of " + LAWS[law], x.count(4), law);
            due("turn of " + LAWS[law], x.count(6), law == 1 ? 0 : NONE);
            due("x of " + LAWS[law], x.count(7), law == 3 ? 4 : NONE);
        }
    }

    static void law_seed1To9999() {
        due("least", Check.told("lot 1").count(7), 1);
        due("least", Check.told("lot 0001").count(7), 1);
        due("most", Check.told("lot 9999").count(7), 9999);
    }

    // ---- "A HOUSE CAN ROLL, in this order: FORTH .., BACK .. (both: the PLOT that is then new to it is EMPTY)"

    static void can_forthThenBack() {
        ways("narrow 3", 0, 4, 2);
        ways("cart 3", 0, 4, 2);
        ways("wide 3", 0, 4, 2);
    }

    static void can_forthOnlyOntoAnEmptyPlot() {
        ways("narrow 3;stuck 4", 0, 2);
        ways("narrow 5;stuck 0", 0, 4);
        ways("narrow 5;wide 0", 0, 4);
    }

    static void can_backOnlyOntoAnEmptyPlot() {
        ways("narrow 3;stuck 2", 0, 4);
        ways("narrow 0;stuck 5", 0, 1);
        ways("narrow 0;wide 4", 0, 1);
        ways("narrow 1;wide 5", 0, 2);
    }

    static void can_notAtAllBetweenTwo() {
        ways("narrow 3;stuck 2;stuck 4", 0);
        ways("green 3;narrow 0;stuck 1", 0, 2);
    }

    static void can_wideOneForthByThePlotBehindIt() {
        ways("green 8;wide 3;stuck 5", 0, 2);
        ways("green 8;wide 6;stuck 0", 0, 5);
        ways("green 8;wide 7;stuck 1", 0, 6);
        ways("green 8;wide 3;stuck 6", 0, 4, 2);
    }

    static void can_wideOneBackByThePlotAhead() {
        ways("green 8;wide 3;stuck 2", 0, 4);
        ways("green 8;wide 0;stuck 7", 0, 1);
        ways("green 8;wide 0;stuck 6", 0, 1, 7);
    }

    static void can_wideOneInARing() {
        for (int p = 3; p <= 12; p++) {
            ways("green " + p + ";wide " + (p - 1), 0, 0, p - 2);
            ways("green " + p + ";wide " + (p - 2), 0, p - 1, p - 3);
            ways("green " + p + ";wide 0", 0, 1, p - 1);
        }
    }

    static void can_wideOneTakesTheNewPlotAndLeavesTheOldOne() {
        NightPlots x = Check.told("green 5;wide 4");
        due("forth", x.roll(0, 0), 1);
        due("empty", x.count(9), 0b11100);
        due("back", x.roll(0, 4), 2);
        due("empty", x.count(9), 0b01110);
        due("back", x.roll(0, 3), 3);
        due("empty", x.count(9), 0b00111);
    }

    // ---- "a CART also by each PATH of its PLOT (as they came) to the other end, if that is EMPTY"

    static void can_cartByPathsAsTheyCame() {
        ways("green 12;cart 4;path 4 11;path 0 4;path 4 8", 0, 5, 3, 11, 0, 8);
        ways("green 12;cart 4;path 4 8;path 0 4;path 4 11", 0, 5, 3, 8, 0, 11);
    }

    static void can_cartByPathsOfItsPlotAlone() {
        ways("green 12;cart 4;path 3 11;path 0 5", 0, 5, 3);
    }

    static void can_cartByNoPathToATakenPlot() {
        ways("green 12;cart 4;path 4 8;path 9 4;path 4 10;wide 8", 0, 5, 3, 10);
    }

    static void can_cartByPathsAlone() {
        ways("green 12;cart 4;stuck 3;stuck 5;path 4 8", 0, 8);
        ways("green 12;cart 4;stuck 3;stuck 5;stuck 8;path 4 8", 0);
    }

    static void can_cartByEachOfPathsThatAreAlike() {
        ways("green 12;cart 4;path 4 5;path 4 8;path 8 4", 0, 5, 3, 5, 8, 8);
    }

    static void can_cartBySixPaths() {
        ways("green 12;cart 0;path 0 5;path 0 6;path 7 0;path 0 8;path 9 0;path 0 5", 0, 1, 11, 5, 6, 7, 8, 9, 5);
    }

    static void can_noOtherOneByPaths() {
        ways("green 12;narrow 4;path 4 8", 0, 5, 3);
        ways("green 12;wide 4;path 4 8;path 5 9", 0, 5, 3);
        ways("green 12;stuck 4;path 4 8", 0);
    }

    static void can_stuckOneNotAtAll() {
        ways("stuck 3", 0);
        due("roll", Check.told("stuck 3").roll(0, 4), NOT);
    }

    // ---- "In a NIGHT one ROLLS, by its first way: by AGE the least HOUSE that CAN"

    static void age_theLeastThatCan() {
        nights("green 12;narrow 4;narrow 0", new int[][] {{5, 0}, {6, 0}, {7, 0}});
        nights("green 5;stuck 0;narrow 1;narrow 3", new int[][] {{0, 2, 3}, {0, 1, 3}});
        nights("green 12;narrow 4;stuck 3;stuck 5;stuck 0;narrow 8", new int[][] {{4, 3, 5, 0, 9}});
    }

    static void age_byItsFirstWay() {
        nights("green 12;narrow 4;stuck 5", new int[][] {{3, 5}});
        nights("green 12;cart 4;stuck 5;stuck 3;path 4 9", new int[][] {{9, 5, 3}});
        nights("green 12;cart 4;stuck 5;path 4 9", new int[][] {{3, 5}});
    }

    static void age_inARing() {
        nights("green 3;narrow 1", new int[][] {{2}, {0}, {1}});
        nights("green 3;wide 1", new int[][] {{2}, {0}, {1}});
    }

    // ---- "by TURN the first that CAN from the one whose turn it is on (behind the last one: 0)", "the next one"

    static void turn_oneBehindTheOther() {
        nights("green 12;narrow 0;narrow 4;narrow 8;turn", new int[][] {{1, 4, 8}, {1, 5, 8}, {1, 5, 9}, {2, 5, 9}});
    }

    static void turn_behindTheLastOneIs0() {
        NightPlots x = Check.told("green 12;narrow 0;narrow 6;turn");
        int[] want = {1, 0, 1, 0};
        for (int whose : want) {
            x.go(1);
            due("turn", x.count(6), whose);
        }
    }

    static void turn_alone() {
        NightPlots x = Check.told("green 12;narrow 0;turn");
        x.go(1);
        due("turn", x.count(6), 0);
    }

    static void turn_onFromOneThatCannot() {
        NightPlots x = Check.told("green 12;narrow 0;stuck 4;narrow 8;turn");
        x.go(2);
        due("house 2", x.house(2, 1), 9);
        due("turn", x.count(6), 0);
    }

    static void turn_onFromTheLastThatCannot() {
        NightPlots x = Check.told("green 12;narrow 0;narrow 4;stuck 8;turn");
        x.go(2);
        due("turn of the last one", x.count(6), 2);
        x.go(1);
        due("house 0", x.house(0, 1), 2);
        due("turn", x.count(6), 1);
    }

    static void turn_ofTheNextOfTheOneThatRolled() {
        NightPlots x = Check.told("green 12;stuck 0;stuck 4;narrow 8;narrow 6;turn");
        x.go(1);
        due("house 2", x.house(2, 1), 9);
        due("turn", x.count(6), 3);
    }

    static void turn_notOfOneThatCouldNotAhead() {
        nights(IN_THE_WAY + "turn", new int[][] {{1, 6, 7, 5}, {1, 6, 8, 5}, {2, 6, 8, 5}, {2, 7, 8, 5}});
    }

    // ---- "by REST the one that CAN that has not rolled for longest (of several the least)"

    static void rest_ofSeveralTheLeast() {
        nights("green 12;narrow 8;narrow 4;narrow 0;rest", new int[][] {{9, 4, 0}, {9, 5, 0}, {9, 5, 1}, {10, 5, 1}});
    }

    static void rest_theOneThatCouldNotAheadOfOthers() {
        nights(IN_THE_WAY + "rest", new int[][] {{1, 6, 7, 5}, {1, 6, 8, 5}, {1, 7, 8, 5}, {2, 7, 8, 5}});
    }

    static void rest_theOneThatHasNotRolledAheadOfOthers() {
        NightPlots x = Check.told("green 12;narrow 0;narrow 4;narrow 8;rest");
        Check.roll(x, 0, 1);
        Check.roll(x, 1, 5);
        x.go(1);
        due("house 2", x.house(2, 1), 9);
        Check.roll(x, 0, 2);
        x.go(1);
        due("house 1", x.house(1, 1), 6);
    }

    static void rest_amongThoseThatCan() {
        nights("green 12;stuck 0;narrow 4;rest", new int[][] {{0, 5}, {0, 6}, {0, 7}});
    }

    // ---- "by LOT: x becomes 16807 times x modulo 65521 .., of all ways .. with the number x modulo how many"

    static void lot_xBecomes() {
        int[][] rows = {{1, 16807}, {2, 33614}, {3, 50421}, {4, 1707}, {9999, 57349}};
        for (int[] row : rows) {
            NightPlots x = Check.told("narrow 0;lot " + row[0]);
            due("at first", x.count(7), row[0]);
            x.go(1);
            due("x of " + row[0], x.count(7), row[1]);
        }
    }

    static void lot_theFirstWayIsNumber0() {
        NightPlots x = Check.told("green 12;cart 0;path 0 6;lot 4");
        x.go(1);
        due("1707 modulo 3 is 0", x.house(0, 1), 1);
    }

    static void lot_theLastWayIsNumberAllLess1() {
        NightPlots x = Check.told("green 12;cart 0;path 0 6;lot 2");
        x.go(1);
        due("33614 modulo 3 is 2", x.house(0, 1), 6);
    }

    static void lot_byHousesThenTheirWays() {
        NightPlots x = Check.told("green 12;narrow 0;stuck 4;narrow 8;lot 2");
        x.go(1);
        due("33614 modulo 4 is 2", x.house(2, 1), 9);
        due("house 0", x.house(0, 1), 0);
        x = Check.told("green 12;narrow 0;stuck 4;narrow 8;lot 1");
        x.go(1);
        due("16807 modulo 4 is 3", x.house(2, 1), 7);
        x = Check.told("green 12;narrow 0;stuck 4;narrow 8;lot 3");
        x.go(1);
        due("50421 modulo 4 is 1", x.house(0, 1), 11);
    }

    static void lot_onlyWay() {
        NightPlots x = Check.told("green 3;narrow 0;stuck 1;lot 1");
        x.go(1);
        due("16807 modulo 1 is 0", x.house(0, 1), 2);
    }

    // ---- "If none CAN, nothing is done (LOT stays)"

    static void noneCan_nothingIsDone() {
        for (String law : LAWS) {
            NightPlots x = Check.told("stuck 0;stuck 2;" + law);
            due("nights go by " + law, x.go(99), 99);
            due("rolled by " + law, x.house(0, 2), NONE);
            due("empty by " + law, x.count(9), 0b111010);
            due("turn by " + law, x.count(6), law.equals("turn") ? 0 : NONE);
        }
    }

    static void noneCan_lotStays() {
        NightPlots x = Check.told("stuck 0;stuck 2;lot 4");
        x.go(99);
        due("x", x.count(7), 4);
    }

    static void noneCan_noHouses() {
        for (String law : LAWS) {
            NightPlots x = Check.told(law);
            due("nights go by " + law, x.go(99), 99);
            due("turn by " + law, x.count(6), law.equals("turn") ? 0 : NONE);
            due("x by " + law, x.count(7), law.equals("lot 4") ? 4 : NONE);
        }
    }

    // ---- "KINDS are over one another"

    static void kinds_overOneAnother() {
        NightPlots x = Check.told("green 12;narrow 0;cart 3;stuck 6;wide 9");
        int[][] want = {{2, 2, NOT, NOT, NOT}, {2, 2, 2, NOT, NOT}, {0, 0, NOT, 0, NOT}, {2, NOT, NOT, NOT, 2}};
        for (int house = 0; house < 4; house++) {
            for (int kind = 0; kind <= 4; kind++) {
                due("as(" + house + ", " + kind + ")", x.as(house, kind), want[house][kind]);
            }
        }
    }

    // ---- "BESIDE one another if a PLOT of one is next to a PLOT of the other one"

    private static void beside(String text, int want) {
        NightPlots x = Check.told(text);
        due("beside in '" + text + "'", x.touch(0, 1, 0), want);
        due("beside in '" + text + "', the other way", x.touch(1, 0, 0), want);
    }

    static void beside_nextToOneAnother() {
        beside("green 12;narrow 4;narrow 5", 1);
        beside("green 12;narrow 4;narrow 6", 0);
        beside("green 12;narrow 4;narrow 10", 0);
    }

    static void beside_inARing() {
        for (int p = 4; p <= 12; p++) {
            beside("green " + p + ";narrow 0;narrow " + (p - 1), 1);
            beside("green " + p + ";narrow 0;narrow " + (p - 2), 0);
            beside("green " + p + ";narrow 1;narrow " + (p - 1), 0);
        }
    }

    static void beside_allOfThreePlots() {
        beside("green 3;narrow 0;narrow 1", 1);
        beside("green 3;narrow 1;narrow 2", 1);
        beside("green 3;narrow 2;narrow 0", 1);
    }

    static void beside_eitherPlotOfAWideOne() {
        beside("green 12;wide 4;narrow 3", 1);
        beside("green 12;wide 4;narrow 6", 1);
        beside("green 12;wide 4;narrow 2", 0);
        beside("green 12;wide 4;narrow 7", 0);
        beside("green 12;wide 4;wide 6", 1);
        beside("green 12;wide 4;wide 7", 0);
    }

    static void beside_aWideOneInARing() {
        beside("green 12;wide 11;narrow 1", 1);
        beside("green 12;wide 11;narrow 10", 1);
        beside("green 12;wide 11;narrow 2", 0);
        beside("green 12;wide 11;narrow 9", 0);
        beside("green 12;wide 10;wide 0", 1);
        beside("green 12;wide 11;wide 1", 1);
        beside("green 12;wide 9;wide 0", 0);
    }

    // ---- "OPPOSITE (p even) if their PLOTS (of WIDE ones the first) are half of p apart"

    private static void opposite(String text, int want) {
        NightPlots x = Check.told(text);
        due("opposite in '" + text + "'", x.touch(0, 1, 1), want);
        due("opposite in '" + text + "', the other way", x.touch(1, 0, 1), want);
    }

    static void opposite_halfOfPApart() {
        for (int p = 4; p <= 12; p += 2) {
            for (int plot = 1; plot < p; plot++) {
                opposite("green " + p + ";narrow 0;narrow " + plot, plot == p / 2 ? 1 : 0);
            }
        }
    }

    static void opposite_inARing() {
        opposite("green 12;narrow 11;narrow 5", 1);
        opposite("green 12;narrow 11;narrow 6", 0);
        opposite("green 12;narrow 11;narrow 4", 0);
    }

    static void opposite_notOfAnOddP() {
        for (int p = 3; p <= 11; p += 2) {
            for (int plot = 1; plot < p; plot++) {
                opposite("green " + p + ";narrow 0;narrow " + plot, 0);
            }
        }
    }

    static void opposite_ofWideOnesTheFirst() {
        opposite("green 6;wide 0;narrow 3", 1);
        opposite("green 6;wide 0;narrow 4", 0);
        opposite("green 6;wide 1;wide 4", 1);
        opposite("green 6;wide 5;narrow 2", 1);
        opposite("green 6;wide 5;narrow 3", 0);
    }

    // ---- "FORETOLD from now (nothing changes)", and what is asked changes nothing either

    private static void changesNothing(String what, ToIntFunction<NightPlots> call) {
        for (String law : LAWS) {
            Supplier<NightPlots> maker = () -> Situations.used(law);
            Answers.unchanged(what + " by " + law, maker, call, call.applyAsInt(maker.get()));
        }
    }

    static void foretold_laterChangesNothing() {
        changesNothing("later(1, 99)", x -> x.later(1, 99));
    }

    static void foretold_roundChangesNothing() {
        changesNothing("round(0)", x -> x.round(0));
        changesNothing("round(1)", x -> x.round(1));
    }

    static void foretold_touchChangesNothing() {
        changesNothing("touch(0, 1, 0)", x -> x.touch(0, 1, 0));
    }

    static void foretold_whenChangesNothing() {
        changesNothing("when(0, 2, 1)", x -> x.when(0, 2, 1));
    }

    static void foretold_oftenChangesNothing() {
        changesNothing("often(0, 1, 0, 99)", x -> x.often(0, 1, 0, 99));
    }

    static void foretold_bringsChangesNothing() {
        changesNothing("brings(3, 99)", x -> x.brings(3, 99));
    }

    static void foretold_feudingChangesNothing() {
        changesNothing("feuding(99)", x -> x.feuding(99));
    }

    static void foretold_nearestChangesNothing() {
        changesNothing("nearest(0, 2, 0)", x -> x.nearest(0, 2, 0));
        changesNothing("nearest(0, 2, 1)", x -> x.nearest(0, 2, 1));
    }

    static void foretold_mendsChangesNothing() {
        changesNothing("mends(2, 5, 99, 0)", x -> x.mends(2, 5, 99, 0));
        changesNothing("mends(2, 5, 99, 1)", x -> x.mends(2, 5, 99, 1));
    }

    static void asked_changesNothing() {
        changesNothing("laws()", NightPlots::laws);
        changesNothing("fault()", NightPlots::fault);
        changesNothing("plot(3, 0)", x -> x.plot(3, 0));
        changesNothing("house(1, 2)", x -> x.house(1, 2));
        changesNothing("as(1, 2)", x -> x.as(1, 2));
        changesNothing("can(1, 1)", x -> x.can(1, 1));
        changesNothing("count(9)", x -> x.count(9));
    }
}
