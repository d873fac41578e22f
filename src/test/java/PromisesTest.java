/** Each promise, 1 to 26, by the cases at the bounds that the document gives it. */
public final class PromisesTest {
    private static final int NONE = -1, UNKNOWN = -2, OUTSIDE = -3, NOT = -4, FULL = -5;
    /** Worked out in TermsTest: on night 3 all stand otherwise by AGE, by TURN, by REST. */
    private static final String IN_THE_WAY = "green 12;narrow 0;narrow 6;narrow 7;stuck 5";
    private static final String ALONE = "green 12;narrow 0";

    public static void main(String[] args) {
        Check.runTests(PromisesTest.class);
        eachPromiseHasTests();
        Check.end("PromisesTest");
    }

    private static void eachPromiseHasTests() {
        for (int promise = 1; promise <= 26; promise++) {
            int tests = 0;
            for (java.lang.reflect.Method method : PromisesTest.class.getDeclaredMethods()) {
                tests += method.getName().startsWith("promise" + promise + "_") ? 1 : 0;
            }
            due("whether promise " + promise + " has tests", tests > 0 ? 1 : 0, 1);
        }
    }

    private static void due(String what, long got, long want) {
        Check.due(what, got, want);
    }

    private static NightPlots nightsOn(String text, int nights) {
        NightPlots x = Check.told(text);
        for (int left = nights; left > 0; left -= 99) {
            x.go(Math.min(left, 99));
        }
        due("nights of '" + text + "'", x.count(5), nights);
        return x;
    }

    // ---- 1, a new object: "Six PLOTS, no HOUSES."

    static void promise1_sixPlotsNoHouses() {
        NightPlots x = new NightPlots();
        int[] want = {6, 0, 0, 0, 0, 0, NONE, NONE, 0, 63, 0};
        for (int what = 0; what < want.length; what++) {
            due("count(" + what + ")", x.count(what), want[what]);
        }
    }

    static void promise1_allElseAsAtFirst() {
        NightPlots x = new NightPlots();
        for (int plot = 0; plot < 6; plot++) {
            due("house on plot " + plot, x.plot(plot, 0), NONE);
            due("crop of plot " + plot, x.plot(plot, 1), 1);
        }
        due("back", x.back(0), NOT);
        due("laws", x.laws(), 7);
        due("nights go", x.go(1), 1);
    }

    static void promise1_objectsDoNotShare() {
        NightPlots x = Check.told("green 3;narrow 0;turn");
        NightPlots y = new NightPlots();
        due("plots of the other one", y.count(0), 6);
        due("houses of the other one", y.count(1), 0);
        due("plots", x.count(0), 3);
    }

    static void promise1_512Calls() {
        NightPlots x = new NightPlots();
        for (int call = 1; call <= 512; call++) {
            due("go", x.go(1), call);
        }
    }

    // ---- 2, write: "n (1 .. 8) bytes more .., byte i being bytes >> 8 i & 255: how many it has"

    static void promise2_1To8Bytes() {
        for (int n = 1; n <= 8; n++) {
            NightPlots x = new NightPlots();
            due("write " + n, x.write(0x2020202020202020L, n), n);
            due("bytes", x.count(10), n);
            due("all are blanks", x.fault(), n);
        }
    }

    static void promise2_0BytesAreOutside() {
        NightPlots x = new NightPlots();
        due("write 0", x.write(Check.packed("age"), 0), OUTSIDE);
        due("write -1", x.write(Check.packed("age"), -1), OUTSIDE);
        due("bytes", x.count(10), 0);
    }

    static void promise2_9BytesAreOutside() {
        NightPlots x = new NightPlots();
        due("write 9", x.write(Check.packed("age"), 9), OUTSIDE);
        due("bytes", x.count(10), 0);
    }

    static void promise2_theLowestByteIsTheFirst() {
        NightPlots x = new NightPlots();
        due("lot 1234", x.write(0x3433323120746f6cL, 8), 8);
        due("green", x.green(), 1);
        due("seed", x.count(7), 1234);
    }

    static void promise2_theEighthByteOfANumberBelow0() {
        NightPlots x = new NightPlots();
        due("write", x.write(0xff20202020656761L, 8), 8);
        due("its last byte is 255", x.fault(), 7);
        x.erase();
        due("write", x.write(-1L, 1), 1);
        due("its first byte is 255", x.fault(), 0);
    }

    static void promise2_noByteAboveN() {
        NightPlots x = new NightPlots();
        due("write 3 of age;;;;;", x.write(0x3b3b3b3b3b656761L, 3), 3);
        due("green", x.green(), 1);
    }

    static void promise2_bytesMore() {
        NightPlots x = new NightPlots();
        due("lo", x.write(Check.packed("lo"), 2), 2);
        due("t", x.write(Check.packed("t"), 1), 3);
        due("12", x.write(Check.packed("12"), 2), 5);
        due("green", x.green(), 1);
        due("seed", x.count(7), 12);
    }

    private static NightPlots bytes(int n) {
        NightPlots x = new NightPlots();
        Check.write(x, " ".repeat(n));
        due("bytes", x.count(10), n);
        return x;
    }

    static void promise2_upTo200() {
        due("8 more", bytes(192).write(0, 8), 200);
        due("1 more", bytes(199).write(0, 1), 200);
    }

    static void promise2_fullAbove200() {
        for (int had = 193; had <= 200; had++) {
            NightPlots x = bytes(had);
            due("one too many", x.write(0, 201 - had), FULL);
            due("bytes", x.count(10), had);
            due("all are blanks still", x.fault(), had);
        }
    }

    static void promise2_asManyAgainBehindErase() {
        NightPlots x = bytes(200);
        x.erase();
        Check.write(x, "x".repeat(200));
        due("bytes", x.count(10), 200);
        due("fault", x.fault(), 0);
    }

    // ---- 3, erase: "THE TEXT is empty: how many bytes it had."

    static void promise3_none() {
        due("erase", new NightPlots().erase(), 0);
    }

    static void promise3_200() {
        NightPlots x = bytes(200);
        due("erase", x.erase(), 200);
        due("bytes", x.count(10), 0);
        due("erase again", x.erase(), 0);
    }

    static void promise3_emptyThen() {
        NightPlots x = new NightPlots();
        Check.write(x, "house");
        due("erase", x.erase(), 5);
        Check.write(x, "age");
        due("fault", x.fault(), NONE);
    }

    static void promise3_nothingElse() {
        NightPlots x = Check.told("narrow 0;turn");
        x.go(1);
        Check.write(x, "clear");
        due("erase", x.erase(), 5);
        due("nights", x.count(5), 1);
        due("houses", x.count(1), 1);
    }

    // ---- 4, fault: "The place of the FAULT (the byte with which the TOKEN begins, or the length); NONE."

    static void promise4_none() {
        Check.fault("age", NONE);
        Check.fault("  age  ", NONE);
    }

    static void promise4_byte0() {
        Check.fault("ages", 0);
        Check.fault(";", 0);
        Check.fault("7", 0);
    }

    static void promise4_whereATokenBegins() {
        Check.fault("age;  house  1", 6);
        Check.fault("lot 10000", 4);
    }

    static void promise4_theLength() {
        Check.fault("", 0);
        Check.fault("lot", 3);
        Check.fault("lot  ", 5);
        Check.fault("age;", 4);
    }

    static void promise4_againTheSame() {
        NightPlots x = Check.told("narrow 0");
        Check.write(x, "narrow 2;narrow 2");
        due("fault", x.fault(), 16);
        due("fault again", x.fault(), 16);
        due("houses", x.count(1), 1);
    }

    // ---- 5, green: "LINES are done, and it is empty then: how many there were. NOT: it has a FAULT."

    static void promise5_howManyLines() {
        for (int lines = 1; lines <= 12; lines++) {
            NightPlots x = new NightPlots();
            Check.write(x, "age;".repeat(lines - 1) + "turn");
            due("lines", x.green(), lines);
            due("bytes", x.count(10), 0);
            due("law", x.count(4), 1);
        }
    }

    static void promise5_notOfAnEmptyText() {
        NightPlots x = new NightPlots();
        due("green", x.green(), NOT);
        Check.tell(x, "age");
        due("green again", x.green(), NOT);
    }

    static void promise5_notOfAFaultInTheLastLine() {
        NightPlots x = Check.told("green 8;narrow 0");
        x.go(3);
        Check.write(x, "green 5;turn;path 0 1;crop 0 9;narrow 5");
        due("green", x.green(), NOT);
        int[] want = {8, 1, 0, 0, 0, 3, NONE, NONE, 0, 255 - 8, 39};
        for (int what = 0; what < want.length; what++) {
            due("count(" + what + ")", x.count(what), want[what]);
        }
        due("crop", x.plot(0, 1), 1);
    }

    static void promise5_notOf13Lines() {
        NightPlots x = new NightPlots();
        Check.write(x, "age;".repeat(12) + "age");
        due("green", x.green(), NOT);
        due("bytes", x.count(10), 51);
    }

    static void promise5_200Bytes() {
        NightPlots x = new NightPlots();
        Check.write(x, " ".repeat(196) + "turn");
        due("green", x.green(), 1);
        due("law", x.count(4), 1);
    }

    // ---- 6, plot: "the HOUSE that stands there (what 0; NONE: EMPTY), its CROP (1). UNKNOWN; OUTSIDE."

    static void promise6_emptyIsNone() {
        NightPlots x = Check.told("narrow 2");
        due("plot 2", x.plot(2, 0), 0);
        due("plot 1", x.plot(1, 0), NONE);
        x.go(1);
        due("plot 2 then", x.plot(2, 0), NONE);
        due("plot 3 then", x.plot(3, 0), 0);
    }

    static void promise6_theLastPlot() {
        NightPlots x = Check.told("green 12;crop 11 9;narrow 0;narrow 11");
        due("its house", x.plot(11, 0), 1);
        due("its crop", x.plot(11, 1), 9);
        due("none behind it", x.plot(12, 0), UNKNOWN);
        due("none behind it", x.plot(12, 1), UNKNOWN);
        due("none ahead", x.plot(-1, 1), UNKNOWN);
    }

    static void promise6_bothPlotsOfAWideOne() {
        NightPlots x = Check.told("green 12;stuck 3;wide 11");
        due("the last one", x.plot(11, 0), 1);
        due("0", x.plot(0, 0), 1);
        due("1", x.plot(1, 0), NONE);
    }

    static void promise6_cropsStay() {
        NightPlots x = Check.told("crop 2 7;narrow 2");
        x.go(1);
        due("crop 2", x.plot(2, 1), 7);
        due("crop 3", x.plot(3, 1), 1);
    }

    static void promise6_refused() {
        NightPlots x = new NightPlots();
        due("no such plot", x.plot(6, 0), UNKNOWN);
        due("what 2", x.plot(5, 2), OUTSIDE);
        due("what -1", x.plot(0, -1), OUTSIDE);
        due("no such plot, what 2", x.plot(6, 2), UNKNOWN);
    }

    // ---- 7, house: "its KIND (what 0), PLOT (1), how many nights have gone since it rolled (2; NONE: it has not)"

    static void promise7_hasNotRolled() {
        NightPlots x = nightsOn("green 12;narrow 0;narrow 6", 9);
        due("house 1", x.house(1, 2), NONE);
    }

    static void promise7_rolledInTheNightThatHasGone() {
        NightPlots x = nightsOn(ALONE, 1);
        due("house 0", x.house(0, 2), 0);
    }

    static void promise7_rolledOnTheFirstOf9999Nights() {
        NightPlots x = Check.told("green 12;narrow 0;narrow 6");
        Check.roll(x, 1, 7);
        for (int i = 0; i < 100; i++) {
            x.go(99);
        }
        due("nights", x.go(98), 9999);
        due("house 1", x.house(1, 2), 9998);
        due("house 0", x.house(0, 2), 0);
    }

    static void promise7_theLastHouse() {
        NightPlots x = Check.told("green 12;narrow 0;cart 1;stuck 2;narrow 3;cart 4;stuck 5;narrow 6;wide 7");
        due("its kind", x.house(7, 0), 3);
        due("its plot", x.house(7, 1), 7);
        due("none behind it", x.house(8, 0), UNKNOWN);
    }

    static void promise7_refused() {
        NightPlots x = Check.told("narrow 0");
        due("no such house", x.house(1, 0), UNKNOWN);
        due("no such house", x.house(-1, 0), UNKNOWN);
        due("what 3", x.house(0, 3), OUTSIDE);
        due("what -1", x.house(0, -1), OUTSIDE);
        due("no such house, what 3", x.house(1, 3), UNKNOWN);
    }

    // ---- 8, as: "A HOUSE taken as a KIND (0 .. 4 ..): in how many ways it CAN ROLL. .. NOT: it is none such."

    static void promise8_whateverItIsTakenAs() {
        NightPlots x = Check.told("green 12;cart 4;path 4 8;path 9 4");
        due("as a house", x.as(0, 0), 4);
        due("as a narrow one", x.as(0, 1), 4);
        due("as a cart", x.as(0, 2), 4);
    }

    static void promise8_noWay() {
        NightPlots x = Check.told("green 7;stuck 0;stuck 2;narrow 1;wide 3;stuck 5");
        due("stuck, as a narrow one", x.as(0, 1), 0);
        due("between two", x.as(2, 1), 0);
        due("wide", x.as(3, 4), 0);
    }

    static void promise8_noneSuch() {
        NightPlots x = Check.told("green 12;narrow 0;cart 3;stuck 6;wide 9");
        int[][] others = {{2, 3, 4}, {3, 4}, {2, 4}, {1, 2, 3}};
        for (int house = 0; house < 4; house++) {
            for (int kind : others[house]) {
                due("as(" + house + ", " + kind + ")", x.as(house, kind), NOT);
            }
        }
    }

    static void promise8_refused() {
        NightPlots x = Check.told("narrow 0");
        due("kind 5", x.as(0, 5), OUTSIDE);
        due("kind -1", x.as(0, -1), OUTSIDE);
        due("no such house", x.as(1, 0), UNKNOWN);
        due("no such house, kind 5", x.as(1, 5), UNKNOWN);
        due("no such house, none such", x.as(-1, 4), UNKNOWN);
    }

    // ---- 9, can: "To which PLOT a HOUSE CAN ROLL by its i-th way; NONE: .. UNKNOWN; OUTSIDE: i below 0."

    static void promise9_theFirstIs0() {
        due("forth", Check.told("narrow 5").can(0, 0), 0);
        due("back", Check.told("narrow 5;narrow 0").can(0, 0), 4);
    }

    static void promise9_notSoMany() {
        NightPlots x = Check.told("green 12;cart 4;path 4 8;stuck 0");
        due("the last one", x.can(0, 2), 8);
        due("one more", x.can(0, 3), NONE);
        due("many more", x.can(0, Integer.MAX_VALUE), NONE);
        due("none at all", x.can(1, 0), NONE);
    }

    static void promise9_eightWays() {
        NightPlots x = Check.told("green 12;cart 0;path 0 5;path 0 6;path 7 0;path 0 8;path 9 0;path 0 10");
        due("the eighth", x.can(0, 7), 10);
        due("a ninth", x.can(0, 8), NONE);
    }

    static void promise9_refused() {
        NightPlots x = Check.told("narrow 0");
        due("i -1", x.can(0, -1), OUTSIDE);
        due("no such house", x.can(1, 0), UNKNOWN);
        due("no such house, i -1", x.can(1, -1), UNKNOWN);
    }

    // ---- 10, go: "n NIGHTS (1 .. 99) go by LAW: how many have gone in all. OUTSIDE; FULL: above 9999 in all."

    static void promise10_1To99() {
        NightPlots x = Check.told(ALONE);
        due("go 1", x.go(1), 1);
        due("plot", x.house(0, 1), 1);
        due("go 99", x.go(99), 100);
        due("plot", x.house(0, 1), 100 % 12);
    }

    static void promise10_outside() {
        NightPlots x = Check.told(ALONE);
        due("go 0", x.go(0), OUTSIDE);
        due("go -1", x.go(-1), OUTSIDE);
        due("go 100", x.go(100), OUTSIDE);
        due("plot", x.house(0, 1), 0);
    }

    static void promise10_upTo9999() {
        NightPlots x = nightsOn(ALONE, 9900);
        due("go 99", x.go(99), 9999);
        due("plot", x.house(0, 1), 9999 % 12);
    }

    static void promise10_fullAbove9999() {
        NightPlots x = nightsOn(ALONE, 9901);
        due("go 99", x.go(99), FULL);
        due("nights", x.count(5), 9901);
        due("plot", x.house(0, 1), 9901 % 12);
        due("go 98", x.go(98), 9999);
        due("go 1", x.go(1), FULL);
    }

    static void promise10_9999StandsBehindBack() {
        NightPlots x = nightsOn(ALONE, 9999);
        due("keep", x.keep(0), 9999);
        due("back", x.back(0), 9999);
        due("go", x.go(1), FULL);
        Check.tell(x, "age");
        due("go behind a text", x.go(1), 1);
    }

    // ---- 11, roll: "as one likes (by TURN it is the turn of the next one then) .. UNKNOWN; NOT: it CAN not; FULL."

    static void promise11_byEachWay() {
        for (int plot : new int[] {5, 3, 8, 0}) {
            NightPlots x = Check.told("green 12;narrow 6;cart 4;path 4 8;path 0 4");
            due("roll to " + plot, x.roll(1, plot), 1);
            due("its plot", x.house(1, 1), plot);
            due("where it was", x.plot(4, 0), NONE);
            due("rolled", x.house(1, 2), 0);
            due("the other one", x.house(0, 2), NONE);
        }
    }

    static void promise11_behindTheLastPlot() {
        NightPlots x = Check.told("green 12;narrow 11");
        due("forth", x.roll(0, 0), 1);
        due("back", x.roll(0, 11), 2);
        due("its plot", x.house(0, 1), 11);
    }

    static void promise11_theTurnOfTheNextOne() {
        NightPlots x = Check.told("green 12;narrow 0;narrow 4;narrow 8;turn");
        Check.roll(x, 1, 5);
        due("behind house 1", x.count(6), 2);
        Check.roll(x, 0, 1);
        due("behind house 0", x.count(6), 1);
    }

    static void promise11_theTurnBehindTheLastOne() {
        NightPlots x = Check.told("green 12;narrow 0;narrow 4;narrow 8;turn");
        Check.roll(x, 2, 9);
        due("turn", x.count(6), 0);
    }

    static void promise11_noTurnByOtherLaws() {
        for (String law : new String[] {"age", "rest", "lot 4"}) {
            NightPlots x = Check.told("green 12;narrow 0;narrow 4;" + law);
            Check.roll(x, 0, 1);
            due("turn by " + law, x.count(6), NONE);
        }
    }

    static void promise11_lotStays() {
        NightPlots x = Check.told("green 12;narrow 0;lot 4");
        Check.roll(x, 0, 1);
        due("x", x.count(7), 4);
    }

    static void promise11_not() {
        NightPlots x = Check.told("green 12;stuck 0;narrow 4;wide 5;path 4 8");
        due("stuck", x.roll(0, 1), NOT);
        due("taken", x.roll(1, 5), NOT);
        due("by a path, but no cart", x.roll(1, 8), NOT);
        due("its own plot", x.roll(1, 4), NOT);
        due("too far", x.roll(1, 2), NOT);
        due("wide, onto another one", x.roll(2, 4), NOT);
        due("wide, too far", x.roll(2, 7), NOT);
        due("nights", x.count(5), 0);
    }

    static void promise11_notWhereAnotherOneCan() {
        NightPlots x = Check.told("green 12;cart 0;narrow 4;path 0 8");
        due("the cart, too far", x.roll(0, 6), NOT);
        due("the other one by its path", x.roll(1, 8), NOT);
        due("the cart", x.roll(0, 8), 1);
        due("the other one to where it was", x.roll(1, 0), NOT);
    }

    static void promise11_unknown() {
        NightPlots x = Check.told("narrow 0");
        due("no such house", x.roll(1, 1), UNKNOWN);
        due("no such house", x.roll(-1, 1), UNKNOWN);
        due("no such plot", x.roll(0, 6), UNKNOWN);
        due("no such plot", x.roll(0, -1), UNKNOWN);
    }

    static void promise11_fullAbove9999() {
        NightPlots x = nightsOn(ALONE, 9998);
        int plot = x.house(0, 1);
        due("roll to 9999", x.roll(0, plot + 1), 9999);
        due("roll above", x.roll(0, plot), FULL);
        due("its plot", x.house(0, 1), plot + 1);
        due("nights", x.count(5), 9999);
        due("not, ahead of full", x.roll(0, plot + 1), NOT);
    }

    // ---- 12, keep: "All as it stands .. is kept (k 0, 1): NIGHTS. UNKNOWN: no such k."

    static void promise12_kIs0Or1() {
        NightPlots x = nightsOn(ALONE, 3);
        due("keep 0", x.keep(0), 3);
        due("keep 1", x.keep(1), 3);
        due("keep -1", x.keep(-1), UNKNOWN);
        due("keep 2", x.keep(2), UNKNOWN);
    }

    static void promise12_twoOfTheirOwn() {
        NightPlots x = nightsOn(ALONE, 1);
        x.keep(0);
        x.go(1);
        x.keep(1);
        x.go(1);
        due("back 0", x.back(0), 1);
        due("back 1", x.back(1), 2);
        due("plot", x.house(0, 1), 2);
    }

    static void promise12_theLastStands() {
        NightPlots x = nightsOn(ALONE, 1);
        x.keep(0);
        x.go(4);
        due("keep again", x.keep(0), 5);
        x.go(1);
        due("back", x.back(0), 5);
        due("plot", x.house(0, 1), 5);
    }

    static void promise12_nights0And9999() {
        NightPlots x = Check.told(ALONE);
        due("keep", x.keep(0), 0);
        due("keep", nightsOn(ALONE, 9999).keep(1), 9999);
    }

    // ---- 13, back: "It is as it was kept: NIGHTS. UNKNOWN; NOT: nothing was kept since the last text."

    static void promise13_nothingWasKept() {
        NightPlots x = new NightPlots();
        due("back 0", x.back(0), NOT);
        due("back 1", x.back(1), NOT);
        x.keep(0);
        due("back 1 still", x.back(1), NOT);
        due("back 0 then", x.back(0), 0);
    }

    static void promise13_nothingSinceTheLastText() {
        NightPlots x = nightsOn(ALONE, 3);
        x.keep(0);
        x.keep(1);
        Check.tell(x, "age");
        due("back 0", x.back(0), NOT);
        due("back 1", x.back(1), NOT);
        x.keep(1);
        due("back 1 then", x.back(1), 0);
    }

    static void promise13_aTextWithAFaultIsNone() {
        NightPlots x = nightsOn(ALONE, 3);
        x.keep(0);
        Check.write(x, "house");
        due("green", x.green(), NOT);
        due("back", x.back(0), 3);
    }

    static void promise13_unknown() {
        NightPlots x = nightsOn(ALONE, 3);
        due("back -1", x.back(-1), UNKNOWN);
        due("back 2", x.back(2), UNKNOWN);
    }

    static void promise13_plotsAndWhoRolledWhen() {
        NightPlots x = Check.told("green 12;narrow 0;wide 6;narrow 9;rest");
        x.go(1);
        x.keep(0);
        x.go(9);
        due("back", x.back(0), 1);
        due("plot", x.house(0, 1), 1);
        due("plot", x.house(1, 1), 6);
        due("rolled", x.house(0, 2), 0);
        due("rolled not", x.house(1, 2), NONE);
        due("empty", x.count(9), 4095 & ~(1 << 1 | 1 << 6 | 1 << 7 | 1 << 9));
        x.go(1);
        due("the next one by rest", x.house(1, 1), 7);
    }

    static void promise13_whoseTurn() {
        NightPlots x = nightsOn("green 12;narrow 0;narrow 4;narrow 8;turn", 2);
        x.keep(1);
        x.go(2);
        due("turn", x.count(6), 1);
        due("back", x.back(1), 2);
        due("turn again", x.count(6), 2);
    }

    static void promise13_lot() {
        NightPlots x = nightsOn("narrow 0;lot 1", 1);
        x.keep(0);
        x.go(5);
        x.back(0);
        due("x", x.count(7), 16807);
    }

    static void promise13_nothingElse() {
        NightPlots x = nightsOn(ALONE, 1);
        x.keep(0);
        x.seen(0, 0, 0);
        Check.write(x, "age");
        x.back(0);
        due("seen", x.count(8), 1);
        due("bytes", x.count(10), 3);
    }

    static void promise13_againAndAgain() {
        NightPlots x = nightsOn(ALONE, 1);
        x.keep(0);
        for (int i = 0; i < 3; i++) {
            x.go(7);
            due("back", x.back(0), 1);
            due("plot", x.house(0, 1), 1);
        }
    }

    // ---- 14, later: "the PLOT of a HOUSE in t nights (0 .. 99)"

    static void promise14_0IsNow() {
        due("in no nights", nightsOn(ALONE, 5).later(0, 0), 5);
    }

    static void promise14_99() {
        due("in 99 nights", nightsOn(ALONE, 5).later(0, 99), (5 + 99) % 12);
    }

    static void promise14_fromTheLastNight() {
        due("behind night 9999", nightsOn(ALONE, 9999).later(0, 99), (9999 + 99) % 12);
    }

    static void promise14_refused() {
        NightPlots x = Check.told(ALONE);
        due("t -1", x.later(0, -1), OUTSIDE);
        due("t 100", x.later(0, 100), OUTSIDE);
        due("no such house", x.later(1, 0), UNKNOWN);
        due("no such house, t 100", x.later(1, 100), UNKNOWN);
    }

    // ---- 15, round: "how many nights ahead of that, how many later first; none: not in 500 nights both together"

    private static void rounds(String text, int ahead, int later) {
        NightPlots x = Check.told(text);
        due("ahead in '" + text + "'", x.round(0), ahead);
        due("later in '" + text + "'", x.round(1), later);
    }

    static void promise15_noneCan() {
        for (String law : new String[] {"age", "turn", "rest", "lot 5"}) {
            rounds(law, 0, 1);
            rounds("stuck 0;stuck 3;" + law, 0, 1);
        }
    }

    static void promise15_nowIsAsSomeNightsLater() {
        rounds("green 3;narrow 0", 0, 3);
        rounds("green 12;wide 11", 0, 12);
        rounds("green 12;narrow 0;narrow 6;turn", 0, 24);
    }

    static void promise15_someNightsAhead() {
        rounds("green 12;narrow 0;stuck 6", 4, 2);
        rounds("green 12;narrow 0;stuck 11", 9, 2);
    }

    static void promise15_whoseTurn() {
        NightPlots x = Check.told("green 12;narrow 0;narrow 6;turn");
        Check.roll(x, 0, 1);
        Check.roll(x, 0, 0);
        due("the plots as at first, another turn: ahead", x.round(0), 0);
        due("the plots as at first, another turn: later", x.round(1), 24);
        rounds("green 12;narrow 1;stuck 0;stuck 4;turn", 1, 2);
        rounds("green 12;narrow 2;stuck 0;stuck 4;turn", 1, 2);
    }

    static void promise15_theirOrderByRest() {
        rounds("green 3;narrow 0;narrow 1;rest", 1, 6);
        rounds("green 9;narrow 0;rest", 0, 9);
        NightPlots x = Check.told("green 12;narrow 0;narrow 6;rest");
        Check.roll(x, 0, 1);
        Check.roll(x, 1, 7);
        due("behind two rolls: ahead", x.round(0), 0);
        due("behind two rolls: later", x.round(1), 24);
    }

    static void promise15_theirOrderByRestOfThoseThatHaveNotRolled() {
        rounds("green 5;narrow 3;stuck 0;stuck 1;rest", 1, 2);
        rounds("green 5;stuck 0;narrow 3;stuck 1;rest", 1, 2);
        rounds("green 5;stuck 0;stuck 1;narrow 3;rest", 1, 2);
    }

    // Houses 3 and 7 alone can roll, there and back: 3 to 4, and 6 to 7.
    static void promise15_eightHouses() {
        String eight = "green 12;stuck 0;stuck 1;stuck 2;narrow 3;stuck 5;stuck 8;stuck 9;narrow 6;";
        rounds(eight + "turn", 0, 4);
        rounds(eight + "rest", 2, 4);
        rounds(eight + "age", 0, 2);
    }

    static void promise15_500Together() {
        String text = "green 12;narrow 0;narrow 5;narrow 8;cart 3;cart 10;narrow 2;cart 4;path 7 10;path 5 6;path 1 9;turn";
        rounds(text, 416, 84);
        comparesToThePlainModel(text);
    }

    static void promise15_501Together() {
        String text = "green 10;cart 9;cart 0;cart 5;narrow 7;cart 3;cart 8;stuck 4;path 7 1;path 3 0;path 3 6;turn";
        rounds(text, NONE, NONE);
        comparesToThePlainModel(text);
    }

    private static void comparesToThePlainModel(String text) {
        NightPlots x = Check.told(text);
        PlainModel y = new PlainModel();
        for (int i = 0; i < text.length(); i++) {
            y.write(text.charAt(i), 1);
        }
        due("lines", y.green(), text.split(";").length);
        for (int i = 0; i < 3; i++) {
            due("ahead, as the plain model", x.round(0), y.round(0));
            due("later, as the plain model", x.round(1), y.round(1));
            x.go(1);
            y.go(1);
        }
    }

    // 16807 to the power of n is 1 modulo 65521 for no n below 6552: no x comes again in 500 nights.
    static void promise15_lotNotIn500() {
        rounds("green 9;narrow 0;narrow 4;lot 5", NONE, NONE);
        for (int seed = 1; seed <= 9999; seed += 17) {
            rounds("green 3;narrow 0;narrow 1;lot " + seed, NONE, NONE);
        }
    }

    static void promise15_refused() {
        NightPlots x = new NightPlots();
        due("what -1", x.round(-1), OUTSIDE);
        due("what 2", x.round(2), OUTSIDE);
    }

    // ---- 16, touch: "BESIDE one another now (what 0), OPPOSITE (1): 1, 0. UNKNOWN; OUTSIDE: what, one and itself."

    static void promise16_behindTheLastPlot() {
        NightPlots x = Check.told("green 12;narrow 11;narrow 0;narrow 10;narrow 5");
        due("11 and 0", x.touch(0, 1, 0), 1);
        due("11 and 10", x.touch(0, 2, 0), 1);
        due("0 and 10", x.touch(1, 2, 0), 0);
        due("11 and 5", x.touch(0, 3, 1), 1);
        due("0 and 5", x.touch(1, 3, 1), 0);
    }

    static void promise16_now() {
        NightPlots x = Check.told("green 12;narrow 0;stuck 2");
        due("at first", x.touch(0, 1, 0), 0);
        x.go(1);
        due("then", x.touch(0, 1, 0), 1);
    }

    static void promise16_besideIsNotOpposite() {
        NightPlots x = Check.told("green 4;narrow 0;narrow 1;narrow 2");
        due("beside", x.touch(0, 1, 0), 1);
        due("not opposite", x.touch(0, 1, 1), 0);
        due("not beside", x.touch(0, 2, 0), 0);
        due("opposite", x.touch(0, 2, 1), 1);
    }

    static void promise16_refused() {
        NightPlots x = Check.told("narrow 0;narrow 2");
        due("one and itself", x.touch(1, 1, 0), OUTSIDE);
        due("one and itself", x.touch(0, 0, 1), OUTSIDE);
        due("what -1", x.touch(0, 1, -1), OUTSIDE);
        due("what 2", x.touch(0, 1, 2), OUTSIDE);
        due("no such house", x.touch(0, 2, 0), UNKNOWN);
        due("no such house", x.touch(-1, 0, 0), UNKNOWN);
        due("no such house and itself", x.touch(2, 2, 0), UNKNOWN);
    }

    // ---- 17, when: "in how many nights first (0 .. 399)"; NONE

    static void promise17_0IsNow() {
        NightPlots x = Check.told("green 12;narrow 0;narrow 11;narrow 6");
        due("beside now", x.when(0, 1, 0), 0);
        due("opposite now", x.when(2, 0, 1), 0);
    }

    static void promise17_first() {
        NightPlots x = Check.told("green 12;narrow 0;stuck 6");
        due("in 5 nights", x.when(0, 1, 0), 5);
        x.go(6);
        due("again in a night", x.when(0, 1, 0), 1);
    }

    static void promise17_never() {
        NightPlots x = Check.told("green 11;stuck 0;stuck 5");
        due("beside", x.when(0, 1, 0), NONE);
        due("opposite", x.when(0, 1, 1), NONE);
    }

    // Worked out by the plain model.
    static void promise17_399() {
        NightPlots x = Check.told("green 10;cart 7;stuck 4;narrow 0;narrow 1;path 0 1;path 8 6;lot 842");
        due("in 399 nights", x.when(1, 2, 0), 399);
        x.go(99);
        due("99 nights on", x.when(1, 2, 0), 300);
        x = Check.told("green 12;narrow 2;narrow 9;cart 7;cart 0;cart 10;cart 6;path 5 8;path 2 5;lot 6209");
        due("opposite, in 399 nights", x.when(0, 2, 1), 399);
    }

    // Worked out by the plain model.
    static void promise17_noneIn400() {
        NightPlots x = Check.told("green 11;narrow 8;narrow 0;cart 1;stuck 9;path 1 3;lot 6916");
        x.go(1);
        due("in 399 nights", x.when(0, 1, 0), 399);
        Check.tell(x, "lot 6916");
        due("in 400 nights", x.when(0, 1, 0), NONE);
    }

    static void promise17_refused() {
        NightPlots x = Check.told("narrow 0;narrow 2");
        due("one and itself", x.when(1, 1, 0), OUTSIDE);
        due("what -1", x.when(0, 1, -1), OUTSIDE);
        due("what 2", x.when(0, 1, 2), OUTSIDE);
        due("no such house", x.when(0, 2, 0), UNKNOWN);
        due("no such house, what 2", x.when(2, 0, 2), UNKNOWN);
    }

    // ---- 18, often: "on how many of the next T days (1 .. 99; now is the first)"

    static void promise18_nowIsTheFirst() {
        NightPlots x = Check.told("green 12;narrow 0;stuck 11;stuck 6");
        due("beside, on 1 day", x.often(0, 1, 0, 1), 1);
        due("beside, on 2 days", x.often(0, 1, 0, 2), 1);
        due("opposite, on 1 day", x.often(0, 2, 1, 1), 1);
    }

    static void promise18_theLastDay() {
        NightPlots x = Check.told("green 12;narrow 0;stuck 6");
        due("beside, on 5 days", x.often(0, 1, 0, 5), 0);
        due("beside, on 6 days", x.often(0, 1, 0, 6), 1);
    }

    static void promise18_99Days() {
        NightPlots x = Check.told("green 12;stuck 0;stuck 1;stuck 6");
        due("beside", x.often(0, 1, 0, 99), 99);
        due("opposite", x.often(0, 2, 1, 99), 99);
        due("never", x.often(1, 2, 0, 99), 0);
    }

    static void promise18_fromNow() {
        NightPlots x = nightsOn("green 12;narrow 0;stuck 6", 5);
        due("beside, on 1 day", x.often(0, 1, 0, 1), 1);
        due("opposite, on 99 days", x.often(0, 1, 1, 99), 0);
    }

    static void promise18_refused() {
        NightPlots x = Check.told("narrow 0;narrow 2");
        due("days 0", x.often(0, 1, 0, 0), OUTSIDE);
        due("days -1", x.often(0, 1, 0, -1), OUTSIDE);
        due("days 100", x.often(0, 1, 0, 100), OUTSIDE);
        due("what 2", x.often(0, 1, 2, 1), OUTSIDE);
        due("what -1", x.often(0, 1, -1, 1), OUTSIDE);
        due("one and itself", x.often(1, 1, 0, 1), OUTSIDE);
        due("no such house", x.often(2, 1, 0, 0), UNKNOWN);
        due("no such house", x.often(1, 2, 2, 1), UNKNOWN);
    }

    // ---- 19, brings: "CROPS of all PLOTS on which a HOUSE stands, day by day, together"; T days, now is the first

    static void promise19_nowIsTheFirst() {
        NightPlots x = Check.told("green 12;crop 0 9;crop 1 5;crop 2 0;narrow 0");
        due("1 day", x.brings(0, 1), 9);
        due("2 days", x.brings(0, 2), 14);
        due("3 days", x.brings(0, 3), 14);
        due("4 days", x.brings(0, 4), 15);
    }

    static void promise19_bothPlotsOfAWideOne() {
        NightPlots x = Check.told("green 12;crop 11 9;crop 0 4;crop 1 2;wide 11");
        due("behind the last plot", x.brings(0, 1), 13);
        due("and a night on", x.brings(0, 2), 19);
    }

    static void promise19_99Days() {
        NightPlots x = Check.told("green 5;crop 2 9;crop 3 9;crop 0 0;wide 2;stuck 0");
        due("most", x.brings(0, 99), 99 * 18 - 8 * 49);
        due("nothing", x.brings(1, 99), 0);
        x = Check.told("green 3;crop 0 9;crop 1 9;stuck 0");
        due("stuck", x.brings(0, 99), 891);
    }

    static void promise19_fromNow() {
        due("1 day", nightsOn("green 12;crop 5 9;narrow 0", 5).brings(0, 1), 9);
    }

    static void promise19_refused() {
        NightPlots x = Check.told("narrow 0");
        due("days 0", x.brings(0, 0), OUTSIDE);
        due("days -1", x.brings(0, -1), OUTSIDE);
        due("days 100", x.brings(0, 100), OUTSIDE);
        due("no such house", x.brings(1, 1), UNKNOWN);
        due("no such house, days 0", x.brings(-1, 0), UNKNOWN);
    }

    // ---- 20, feuding: "on how many of T days two of a FEUD are BESIDE one another"; now is the first

    static void promise20_noFeuds() {
        due("no houses", new NightPlots().feuding(99), 0);
        due("no feuds", Check.told("stuck 0;stuck 1").feuding(99), 0);
    }

    static void promise20_nowIsTheFirst() {
        NightPlots x = Check.told("green 12;narrow 0;stuck 11;feud 1 0");
        due("1 day", x.feuding(1), 1);
        due("2 days", x.feuding(2), 1);
    }

    static void promise20_theLastDay() {
        NightPlots x = Check.told("green 12;narrow 0;stuck 6;feud 0 1");
        due("5 days", x.feuding(5), 0);
        due("6 days", x.feuding(6), 1);
    }

    static void promise20_aDayCountsOnce() {
        NightPlots x = Check.told("stuck 0;stuck 1;stuck 2;feud 0 1;feud 1 2;feud 0 1");
        due("99 days", x.feuding(99), 99);
    }

    static void promise20_theLastOfSixFeuds() {
        String others = "feud 0 2;feud 0 2;feud 0 2;feud 0 2;feud 0 2;";
        due("the last one", Check.told("stuck 0;stuck 1;stuck 3;" + others + "feud 1 0").feuding(9), 9);
        due("none", Check.told("stuck 0;stuck 1;stuck 3;" + others + "feud 1 2").feuding(9), 0);
    }

    static void promise20_notOpposite() {
        due("opposite", Check.told("stuck 0;stuck 3;feud 0 1").feuding(9), 0);
    }

    static void promise20_fromNow() {
        due("1 day", nightsOn("green 12;narrow 0;stuck 6;feud 0 1", 5).feuding(1), 1);
    }

    static void promise20_outside() {
        NightPlots x = new NightPlots();
        due("days 0", x.feuding(0), OUTSIDE);
        due("days -1", x.feuding(-1), OUTSIDE);
        due("days 100", x.feuding(100), OUTSIDE);
        due("days 1", x.feuding(1), 0);
    }

    // ---- 21, nearest: "the fewest nights (0 .. 5) ..; none; the first ROLL ..: 20 times the HOUSE, and the PLOT"

    private static void nearest(String text, int a, int b, int nights, int first) {
        NightPlots x = Check.told(text);
        due("nights from " + a + " to " + b + " in '" + text + "'", x.nearest(a, b, 0), nights);
        due("first roll from " + a + " to " + b + " in '" + text + "'", x.nearest(a, b, 1), first);
    }

    static void promise21_0IsNow() {
        nearest("green 12;narrow 11;narrow 0", 0, 1, 0, NONE);
        nearest("stuck 3;stuck 4", 0, 1, 0, NONE);
    }

    static void promise21_5() {
        nearest("green 12;stuck 0;narrow 6", 0, 1, 5, 27);
        nearest("green 12;stuck 0;narrow 6;stuck 7", 0, 1, 5, 25);
        nearest("green 12;narrow 0;narrow 6", 0, 1, 5, 1);
    }

    static void promise21_noneIn6() {
        nearest("green 12;stuck 0;narrow 7;stuck 11", 0, 1, NONE, NONE);
        nearest("green 12;stuck 0;narrow 6;stuck 11", 0, 1, 5, 25);
    }

    static void promise21_never() {
        nearest("green 12;stuck 0;stuck 2", 0, 1, NONE, NONE);
        nearest("green 12;stuck 0;stuck 2;narrow 1", 0, 1, NONE, NONE);
    }

    static void promise21_firstByHouses() {
        nearest("green 12;narrow 0;narrow 4", 0, 1, 3, 1);
        nearest("green 12;narrow 0;narrow 4", 1, 0, 3, 1);
        nearest("green 12;narrow 4;narrow 0", 0, 1, 3, 3);
    }

    static void promise21_firstByWays() {
        nearest("green 4;cart 0;stuck 2", 0, 1, 1, 1);
        nearest("green 12;cart 0;stuck 6;path 0 7;path 0 5", 0, 1, 1, 7);
        nearest("green 12;cart 0;stuck 6;path 0 5;path 0 7", 0, 1, 1, 5);
    }

    static void promise21_anotherOneGivesWay() {
        nearest("green 12;narrow 7;cart 0;stuck 6;path 0 7", 1, 2, 2, 8);
    }

    static void promise21_plots() {
        nearest("green 12;stuck 0;stuck 1;stuck 2;stuck 3;stuck 4;stuck 5;stuck 6;narrow 10", 0, 7, 1, 151);
        nearest("green 12;narrow 10;stuck 0", 0, 1, 1, 11);
        nearest("green 12;narrow 2;stuck 11;stuck 3", 0, 1, 2, 1);
    }

    static void promise21_wideOnes() {
        nearest("green 12;wide 0;stuck 4", 0, 1, 2, 1);
        nearest("green 12;wide 0;stuck 9;stuck 2", 0, 1, 2, 11);
    }

    static void promise21_fromNow() {
        NightPlots x = nightsOn("green 12;narrow 0;stuck 7", 4);
        due("nights", x.nearest(0, 1, 0), 2);
        due("first roll", x.nearest(0, 1, 1), 5);
    }

    static void promise21_refused() {
        NightPlots x = Check.told("narrow 0;narrow 2");
        due("one and itself", x.nearest(1, 1, 0), OUTSIDE);
        due("what -1", x.nearest(0, 1, -1), OUTSIDE);
        due("what 2", x.nearest(0, 1, 2), OUTSIDE);
        due("no such house", x.nearest(0, 2, 0), UNKNOWN);
        due("no such house, what 2", x.nearest(2, 0, 2), UNKNOWN);
    }

    // ---- 22, mends: "each costs 1 and its number together: the cheapest set .. within T nights (0 .. 99) by LAW"

    private static void mends(String text, int a, int b, int nights, int cost, int set) {
        NightPlots x = Check.told(text);
        String what = " of " + a + " and " + b + " in " + nights + " nights in '" + text + "'";
        due("cost" + what, x.mends(a, b, nights, 0), cost);
        due("set" + what, x.mends(a, b, nights, 1), set);
    }

    static void promise22_noneNeeded() {
        mends("stuck 0;stuck 1", 0, 1, 0, 0, 0);
        mends("green 12;narrow 0;stuck 3;stuck 8", 0, 1, 2, 0, 0);
    }

    static void promise22_0Nights() {
        mends("green 12;stuck 0;stuck 2", 0, 1, 0, NONE, NONE);
    }

    static void promise22_withinTNights() {
        mends("green 12;stuck 0;stuck 3", 0, 1, 2, 1, 1);
        mends("green 12;stuck 0;stuck 3", 0, 1, 1, NONE, NONE);
    }

    static void promise22_none() {
        mends("green 12;wide 0;stuck 3;stuck 5;stuck 7", 1, 3, 0, NONE, NONE);
        mends("green 12;narrow 0;narrow 3;narrow 6", 1, 2, 99, NONE, NONE);
    }

    static void promise22_eachCosts1AndItsNumber() {
        String six = "green 12;stuck 0;stuck 1;stuck 2;stuck 3;stuck 4;stuck 5;";
        mends(six + "stuck 7;stuck 9", 6, 7, 1, 7, 64);
        mends(six + "stuck 9;stuck 7", 6, 7, 1, 8, 128);
        mends(six + "stuck 9;stuck 7", 6, 7, 99, 8, 128);
    }

    static void promise22_ofSeveralTheLeast() {
        String text = "green 9;stuck 5;stuck 8;stuck 7;stuck 3;rest";
        mends(text, 0, 3, 4, 4, 5);
        mends(text, 0, 3, 3, 4, 8);
    }

    static void promise22_otherKindsAreNotMended() {
        mends("green 12;narrow 0;narrow 4;narrow 8;cart 10", 1, 2, 99, NONE, NONE);
        mends("green 12;stuck 1;stuck 4;wide 5;stuck 8", 0, 3, 99, NONE, NONE);
    }

    static void promise22_madeNarrowAreNoCarts() {
        mends("green 12;stuck 0;stuck 1;stuck 11;stuck 6;path 0 5", 0, 3, 1, NONE, NONE);
    }

    // Worked out by the plain model.
    static void promise22_99Nights() {
        String text = "green 10;narrow 3;wide 1;stuck 4;cart 5;narrow 9;path 7 3;turn";
        mends(text, 0, 3, 99, 3, 4);
        mends(text, 0, 3, 98, NONE, NONE);
    }

    static void promise22_byLaw() {
        mends("green 12;narrow 0;stuck 4;stuck 8;turn", 1, 2, 99, 2, 2);
        mends("green 12;narrow 0;stuck 4;stuck 8;age", 1, 2, 99, NONE, NONE);
    }

    static void promise22_fromNow() {
        NightPlots x = Check.told("green 12;narrow 0;stuck 5");
        due("in 3 nights", x.mends(0, 1, 3, 0), NONE);
        x.go(1);
        due("in 3 nights, a night on", x.mends(0, 1, 3, 0), 0);
    }

    static void promise22_stuckStillThen() {
        NightPlots x = Check.told("green 12;stuck 0;stuck 3");
        x.seen(0, 0, 99);
        due("set", x.mends(0, 1, 2, 1), 1);
        due("laws", x.laws(), 7);
        due("none in one night", x.mends(0, 1, 1, 1), NONE);
        due("laws", x.laws(), 7);
        due("later", x.later(0, 99), 0);
        due("nearest", x.nearest(0, 1, 0), NONE);
        due("ways", x.as(0, 3), 0);
    }

    static void promise22_refused() {
        NightPlots x = Check.told("stuck 0;stuck 2");
        due("nights -1", x.mends(0, 1, -1, 0), OUTSIDE);
        due("nights 100", x.mends(0, 1, 100, 0), OUTSIDE);
        due("what -1", x.mends(0, 1, 1, -1), OUTSIDE);
        due("what 2", x.mends(0, 1, 1, 2), OUTSIDE);
        due("one and itself", x.mends(0, 0, 1, 0), OUTSIDE);
        due("no such house", x.mends(2, 1, 100, 0), UNKNOWN);
        due("no such house", x.mends(0, 2, 1, 2), UNKNOWN);
    }

    // ---- 23, seen: "SEEN, 8 at most: a HOUSE was at a PLOT on NIGHT t (0 .. 99 ..)": how many

    static void promise23_8AtMost() {
        NightPlots x = Check.told("narrow 0");
        for (int i = 1; i <= 8; i++) {
            due("seen", x.seen(0, 0, 0), i);
        }
        due("a ninth", x.seen(0, 0, 0), FULL);
        due("how many", x.count(8), 8);
        due("forget", x.forget(), 8);
        due("seen anew", x.seen(0, 0, 0), 1);
    }

    static void promise23_aNinthIsNotTaken() {
        NightPlots x = Check.told("narrow 0");
        for (int i = 0; i < 8; i++) {
            x.seen(0, 0, 0);
        }
        due("a ninth that would be wrong", x.seen(0, 5, 0), FULL);
        due("laws", x.laws(), 7);
    }

    static void promise23_nights0To99() {
        NightPlots x = Check.told("narrow 0");
        due("night 0", x.seen(0, 5, 0), 1);
        due("night 99", x.seen(0, 5, 99), 2);
        due("night -1", x.seen(0, 5, -1), OUTSIDE);
        due("night 100", x.seen(0, 5, 100), OUTSIDE);
    }

    static void promise23_whetherItIsSoOrNot() {
        NightPlots x = Check.told("narrow 0;stuck 3");
        due("what is not so", x.seen(1, 0, 0), 1);
        due("one on two plots", x.seen(1, 1, 0), 2);
    }

    static void promise23_unknown() {
        NightPlots x = Check.told("narrow 0");
        due("no such house", x.seen(1, 0, 0), UNKNOWN);
        due("no such house", x.seen(-1, 0, 0), UNKNOWN);
        due("no such plot", x.seen(0, 6, 0), UNKNOWN);
        due("no such plot", x.seen(0, -1, 0), UNKNOWN);
        due("no such plot, night 100", x.seen(0, 6, 100), UNKNOWN);
    }

    // ---- 24, forget: "SEEN is nothing: how many there were."

    static void promise24_none() {
        due("forget", new NightPlots().forget(), 0);
    }

    static void promise24_seenIsNothing() {
        NightPlots x = Check.told("narrow 0");
        x.seen(0, 5, 0);
        x.seen(0, 4, 0);
        due("laws", x.laws(), 0);
        due("forget", x.forget(), 2);
        due("how many", x.count(8), 0);
        due("laws then", x.laws(), 7);
        due("forget again", x.forget(), 0);
    }

    // ---- 25, laws: "(0 .. 2; LOT is not asked) by which all is so, by bits"; "NIGHT 0 as told"

    private static void laws(String text, int house, int plot, int t, int want) {
        NightPlots x = Check.told(text);
        x.seen(house, plot, t);
        due("laws of " + house + " at " + plot + " on night " + t + " in '" + text + "'", x.laws(), want);
    }

    static void promise25_nothingSeen() {
        due("new", new NightPlots().laws(), 7);
        due("by lot", Check.told("narrow 0;lot 5").laws(), 7);
    }

    static void promise25_each() {
        laws(IN_THE_WAY, 0, 3, 3, 1);
        laws(IN_THE_WAY, 0, 2, 3, 2);
        laws(IN_THE_WAY, 0, 1, 3, 4);
    }

    static void promise25_twoAllOrNone() {
        laws(IN_THE_WAY, 1, 6, 3, 3);
        laws(IN_THE_WAY, 2, 8, 3, 6);
        laws(IN_THE_WAY, 0, 3, 9, 5);
        laws(IN_THE_WAY, 3, 5, 99, 7);
        laws(IN_THE_WAY, 3, 6, 3, 0);
    }

    static void promise25_night0AsTold() {
        NightPlots x = nightsOn(IN_THE_WAY, 50);
        Check.roll(x, 2, 8);
        x.seen(2, 7, 0);
        due("as told", x.laws(), 7);
        x.seen(2, 8, 0);
        due("not as told", x.laws(), 0);
    }

    static void promise25_night99() {
        laws(ALONE, 0, 99 % 12, 99, 7);
        laws(ALONE, 0, 98 % 12, 99, 0);
        laws(ALONE, 0, 100 % 12, 99, 0);
    }

    static void promise25_allMustBeSo() {
        NightPlots x = Check.told(IN_THE_WAY);
        x.seen(1, 6, 3);
        due("one", x.laws(), 3);
        x.seen(2, 8, 3);
        due("two", x.laws(), 2);
        x.seen(0, 3, 9);
        due("three", x.laws(), 0);
    }

    static void promise25_theEighthCounts() {
        NightPlots x = Check.told(ALONE);
        for (int i = 0; i < 7; i++) {
            x.seen(0, i, i);
        }
        due("seven", x.laws(), 7);
        x.seen(0, 8, 7);
        due("eight", x.laws(), 0);
    }

    static void promise25_whateverTheLawIs() {
        for (String law : new String[] {"age", "turn", "rest", "lot 4"}) {
            laws(IN_THE_WAY + ";" + law, 0, 2, 3, 2);
        }
    }

    static void promise25_lotIsNotAsked() {
        NightPlots x = Check.told("green 12;narrow 0;lot 1");
        due("by lot back", x.later(0, 1), 11);
        x.seen(0, 11, 1);
        due("laws", x.laws(), 0);
    }

    static void promise25_aWideOneIsAtItsPlot() {
        laws("green 5;wide 4", 0, 4, 0, 7);
        laws("green 5;wide 4", 0, 0, 0, 0);
        laws("green 5;wide 4", 0, 0, 1, 7);
    }

    // ---- 26, count

    static void promise26_each() {
        NightPlots x = Check.told("green 9;wide 8;narrow 4;path 0 1;path 1 2;path 1 3;feud 0 1;turn");
        x.go(3);
        x.seen(0, 0, 0);
        x.seen(0, 0, 0);
        Check.write(x, "age;t");
        int[] want = {9, 2, 3, 1, 1, 3, 1, NONE, 2, 511 - (1 << 1 | 1 << 2 | 1 << 5), 5};
        for (int what = 0; what < want.length; what++) {
            due("count(" + what + ")", x.count(what), want[what]);
        }
    }

    static void promise26_turnByTurnAlone() {
        due("by turn", Check.told("narrow 0;turn").count(6), 0);
        due("by age", Check.told("narrow 0;age").count(6), NONE);
        due("by rest", Check.told("narrow 0;rest").count(6), NONE);
        due("by lot", Check.told("narrow 0;lot 4").count(6), NONE);
    }

    static void promise26_xByLotAlone() {
        due("by lot", Check.told("narrow 0;lot 4").count(7), 4);
        due("by turn", Check.told("lot 4;turn").count(7), NONE);
        due("by age", Check.told("lot 4;age").count(7), NONE);
        due("by rest", Check.told("lot 4;rest").count(7), NONE);
    }

    static void promise26_emptyOnes() {
        due("all of 3", Check.told("green 3").count(9), 7);
        due("all of 12", Check.told("green 12").count(9), 4095);
        due("one", Check.told("green 3;narrow 0;narrow 2").count(9), 2);
        due("the last one", Check.told("green 12;wide 0;wide 2;wide 4;wide 6;wide 8;stuck 10").count(9), 2048);
        due("behind the last one", Check.told("green 12;wide 11").count(9), 2046);
    }

    static void promise26_most() {
        NightPlots x = nightsOn("green 12;path 0 1;path 0 1;path 0 1;path 0 1;path 0 1;path 0 1", 9999);
        Check.write(x, " ".repeat(200));
        due("plots", x.count(0), 12);
        due("paths", x.count(2), 6);
        due("nights", x.count(5), 9999);
        due("bytes", x.count(10), 200);
    }

    static void promise26_outside() {
        NightPlots x = new NightPlots();
        due("count(-1)", x.count(-1), OUTSIDE);
        due("count(11)", x.count(11), OUTSIDE);
        due("the least", x.count(Integer.MIN_VALUE), OUTSIDE);
        due("the most", x.count(Integer.MAX_VALUE), OUTSIDE);
    }
}
