/** Each sentence about THE TEXT, its LINES, TOKENS and FAULTS by the cases at its bounds. */
public final class TextTest {
    private static final int NONE = -1, NOT = -4, FULL = -5;
    private static final String[] WORDS = {"green", "crop", "narrow", "cart", "stuck", "wide", "path", "feud", "age",
        "turn", "rest", "lot", "clear"};
    private static final String[] HOUSES = {"narrow", "cart", "stuck", "wide"};
    private static final String EIGHT = "green 12;narrow 0;cart 1;stuck 2;narrow 3;cart 4;stuck 5;narrow 6;cart 7";
    private static final String SIX_PATHS = "path 0 1;path 1 2;path 2 3;path 3 4;path 4 5;path 5 0";
    private static final String SIX_FEUDS = "feud 0 1;feud 1 0;feud 0 1;feud 0 1;feud 0 1;feud 1 0";

    public static void main(String[] args) {
        Check.runTests(TextTest.class);
        Check.end("TextTest");
    }

    private static void due(String what, long got, long want) {
        Check.due(what, got, want);
    }

    private static void fault(String text, int want) {
        Check.fault(text, want);
    }

    private static void faultBehind(String ahead, String text, int want) {
        Check.faultBehind(ahead, text, want);
    }

    private static String of(int n, String part) {
        return part.repeat(n);
    }

    // ---- "a row of bytes, 200 at most"

    static void bytes_200AreTaken() {
        NightPlots x = new NightPlots();
        Check.write(x, "age" + of(197, " "));
        due("bytes", x.count(10), 200);
        due("fault", x.fault(), NONE);
        due("green", x.green(), 1);
    }

    static void bytes_201AreFull() {
        NightPlots x = new NightPlots();
        Check.write(x, "age" + of(197, " "));
        due("write", x.write(' ', 1), FULL);
        due("bytes", x.count(10), 200);
    }

    static void bytes_faultAtTheLastOf200() {
        fault("age" + of(196, " ") + "x", 199);
    }

    static void bytes_faultAtTheEndOf200() {
        fault("age;" + of(196, " "), 200);
        fault("narrow" + of(194, " "), 200);
        fault(of(200, " "), 200);
    }

    // ---- "LINES with ; (59) between, 1 to 12 (behind the 12th no ; can stand)"

    static void lines_1AtLeast() {
        fault("", 0);
        fault(" ", 1);
        fault(";", 0);
        fault("age", NONE);
    }

    static void lines_12AtMost() {
        fault(of(11, "age;") + "turn", NONE);
        fault(of(11, "age ; ") + " turn ", NONE);
    }

    static void lines_behindThe12thNoSemicolon() {
        fault(of(12, "age;"), 47);
        fault(of(12, "age;") + "age", 47);
        fault(of(11, "age;") + "age ;", 48);
        fault(of(11, "age;") + "age age", 48);
    }

    static void lines_theEndBehindASemicolonComesTooSoon() {
        fault("age;", 4);
        fault("age;  ", 6);
        fault(of(11, "age;"), 44);
    }

    static void lines_noneIsEmpty() {
        fault("age;;turn", 4);
        fault("age; ;turn", 5);
        fault(" ;age", 1);
    }

    static void lines_noOtherSignBetween() {
        fault("age:turn", 3);
        fault("age<turn", 3);
        fault("age turn", 4);
        fault("age,turn", 3);
    }

    // ---- "each is one of ..", "small letters a .. z"

    static void words_eachIsOne() {
        String[] lines = {"green 6", "crop 0 0", "narrow 1", "cart 1", "stuck 1", "wide 1", "path 0 1", "feud 1 0",
            "age", "turn", "rest", "lot 1", "clear"};
        for (String line : lines) {
            faultBehind("narrow 0;stuck 5", line, NONE);
        }
    }

    static void words_noneIsLongerOrShorter() {
        for (String word : WORDS) {
            fault(word + "s 1 1", 0);
            fault(word + word + " 1 1", 0);
            fault("a" + word + " 1 1", 0);
            fault(word.substring(1) + " 1 1", 0);
            fault(word.substring(0, word.length() - 1) + " 1 1", 0);
        }
    }

    static void words_eachLetterOfEach() {
        for (String word : WORDS) {
            for (int i = 0; i < word.length(); i++) {
                fault(word.substring(0, i) + 'q' + word.substring(i + 1) + " 1 1", 0);
            }
        }
    }

    static void words_smallLettersAlone() {
        for (String word : WORDS) {
            fault(word.toUpperCase() + " 1 1", 0);
            fault(word.substring(0, 1).toUpperCase() + word.substring(1) + " 1 1", 0);
            fault(word.substring(0, 2) + " " + word.substring(2) + " 1 1", 0);
        }
    }

    static void words_aLineBeginsWithNoNumber() {
        fault("0", 0);
        fault("age;1", 4);
    }

    static void words_anUnknownOneAtItsBegin() {
        fault("  house 1", 2);
        fault("age; house 1", 5);
        fault("lots", 0);
    }

    // ---- "other numbers 1 or 2" digits, "out of its bounds, of more digits, also"

    static void green_3To12() {
        fault("green 3", NONE);
        fault("green 12", NONE);
    }

    static void green_below3AtItsNumber() {
        fault("green 2", 6);
        fault("green 0", 6);
        fault("green 00", 6);
    }

    static void green_above12AtItsNumber() {
        fault("green 13", 6);
        fault("green 99", 6);
    }

    static void crop_plots0ToPLess1() {
        fault("crop 0 1", NONE);
        fault("crop 5 1", NONE);
        fault("crop 6 1", 5);
        fault("green 3;crop 2 1", NONE);
        fault("green 3;crop 3 1", 13);
        fault("green 12;crop 11 1", NONE);
        fault("green 12;crop 12 1", 14);
    }

    static void crop_0To9() {
        fault("crop 0 0", NONE);
        fault("crop 0 9", NONE);
        fault("crop 0 10", 7);
        fault("crop 0 99", 7);
    }

    static void narrow_plots0ToPLess1() {
        for (String house : HOUSES) {
            int at = house.length() + 1;
            fault(house + " 0", NONE);
            fault(house + " 5", NONE);
            fault(house + " 6", at);
            fault("green 12;" + house + " 11", NONE);
            fault("green 12;" + house + " 12", 9 + at);
            fault("green 3;" + house + " 2", NONE);
            fault("green 3;" + house + " 3", 8 + at);
        }
    }

    static void path_plots0ToPLess1() {
        fault("path 0 5", NONE);
        fault("path 5 0", NONE);
        fault("path 6 0", 5);
        fault("path 0 6", 7);
        fault("path 6 6", 5);
        fault("green 12;path 11 10", NONE);
        fault("green 12;path 12 10", 14);
        fault("green 12;path 10 12", 17);
    }

    static void lot_1To9999() {
        fault("lot 0", 4);
        fault("lot 1", NONE);
        fault("lot 9999", NONE);
        fault("lot 10000", 4);
    }

    static void digits_1To4OfZ() {
        fault("lot 0001", NONE);
        fault("lot 0000", 4);
        fault("lot 00001", 4);
        fault("lot 4294967297", 4);
        fault("lot 18446744073709551617", 4);
    }

    static void digits_1Or2OfOthers() {
        fault("green 06", NONE);
        fault("green 006", 6);
        fault("crop 05 09", NONE);
        fault("crop 005 9", 5);
        fault("crop 5 009", 7);
        fault("path 00 01", NONE);
        fault("path 000 1", 5);
        fault("path 0 001", 7);
        fault("narrow 4294967296", 7);
        for (String house : HOUSES) {
            fault(house + " 00", NONE);
            fault(house + " 000", house.length() + 1);
        }
    }

    static void digits_1Or2OfFeuds() {
        faultBehind("narrow 0;narrow 2", "feud 00 01", NONE);
        faultBehind("narrow 0;narrow 2", "feud 000 1", 5);
        faultBehind("narrow 0;narrow 2", "feud 0 001", 7);
    }

    static void numbers_noOtherTokenInTheirPlace() {
        fault("green six", 6);
        fault("crop x 1", 5);
        fault("crop 1 x", 7);
        fault("narrow -1", 7);
        fault("path ;1 2", 5);
        fault("path 1 ;2", 7);
        fault("lot +5", 4);
    }

    static void numbers_noneTooMany() {
        fault("green 6 6", 8);
        fault("crop 1 2 3", 9);
        fault("narrow 1 2", 9);
        fault("path 1 2 3", 9);
        fault("lot 5 5", 6);
        fault("age 1", 4);
        fault("clear 0", 6);
    }

    // ---- "one that cannot stand there, as it is not EMPTY, or none would be EMPTY then: a FAULT at Q"

    static void houses_whereOneStandsAtQ() {
        for (String house : HOUSES) {
            fault("narrow 2;" + house + " 2", 10 + house.length());
            fault("stuck 0;" + house + " 0", 9 + house.length());
        }
    }

    static void houses_whereAWideOneStandsAtQ() {
        for (String house : HOUSES) {
            fault("wide 2;" + house + " 3", 8 + house.length());
            fault("wide 2;" + house + " 2", 8 + house.length());
        }
    }

    static void houses_whereAWideOneStandsBehindTheLastOneAtQ() {
        fault("wide 5;narrow 0", 14);
        fault("wide 5;wide 0", 12);
        fault("wide 5;narrow 1", NONE);
    }

    static void houses_wideOnesNeedTheNextOneToo() {
        fault("narrow 3;wide 2", 14);
        fault("narrow 0;wide 5", 14);
        fault("narrow 3;wide 1", NONE);
        fault("wide 3;wide 2", 12);
    }

    static void houses_noneWouldBeEmptyAtQ() {
        fault("green 3;narrow 0;narrow 1", NONE);
        for (String house : new String[] {"narrow", "cart", "stuck"}) {
            fault("green 3;narrow 0;narrow 1;" + house + " 2", 27 + house.length());
            fault("green 3;wide 0;" + house + " 2", 16 + house.length());
        }
    }

    static void houses_noneWouldBeEmptyForAWideOneAtQ() {
        fault("green 3;narrow 0;wide 1", 22);
        fault("green 3;narrow 1;wide 2", 22);
        fault("green 4;wide 0;wide 2", 20);
        fault("green 4;wide 1;wide 3", 20);
        fault("green 5;wide 0;wide 2", NONE);
    }

    static void houses_thoseOfEarlierTextsCount() {
        faultBehind("narrow 2", "cart 2", 5);
        faultBehind("wide 5", "cart 0", 5);
        faultBehind("green 3;stuck 0;stuck 2", "cart 1", 5);
        faultBehind("narrow 2", "clear;cart 2", NONE);
        faultBehind("narrow 2", "green 6;cart 2", NONE);
    }

    static void houses_whereTheyWereToldCounts() {
        NightPlots x = Check.told("narrow 2");
        x.go(1);
        Check.write(x, "narrow 3");
        due("where it rolled to", x.fault(), NONE);
        x.erase();
        Check.write(x, "narrow 2");
        due("where it was told", x.fault(), 7);
    }

    // ---- "a ninth at its word"

    static void houses_eight() {
        fault(EIGHT, NONE);
    }

    static void houses_aNinthAtItsWord() {
        for (String house : HOUSES) {
            fault(EIGHT + ";" + house + " 9", EIGHT.length() + 1);
            fault(EIGHT + "; " + house, EIGHT.length() + 2);
            faultBehind(EIGHT, house + " 0", 0);
            faultBehind(EIGHT, "age;" + house + " 99", 4);
        }
    }

    static void houses_eightAgainBehindClear() {
        fault(EIGHT + ";clear;stuck 1", NONE);
        String clear = EIGHT.replace("green 12", "clear");
        faultBehind(EIGHT, clear, NONE);
        faultBehind(EIGHT, clear + ";wide 9", clear.length() + 1);
    }

    // ---- "path: A, B unlike PLOTS (else a FAULT at B), a seventh at its word"

    static void path_likePlotsAtB() {
        fault("path 0 0", 7);
        fault("path 5 5", 7);
        fault("path 5 05", 7);
        fault("path 0 1", NONE);
    }

    static void path_six() {
        fault(SIX_PATHS, NONE);
    }

    static void path_aSeventhAtItsWord() {
        fault(SIX_PATHS + ";path 0 2", 54);
        fault(SIX_PATHS + ";path 9 9", 54);
        faultBehind(SIX_PATHS, "path 0 2", 0);
        faultBehind(SIX_PATHS, "age;path", 4);
        faultBehind(SIX_PATHS, "clear;path 0 2", 6);
    }

    static void path_sixAgainBehindGreen() {
        faultBehind(SIX_PATHS, "green 6;" + SIX_PATHS, NONE);
        faultBehind(SIX_PATHS, "green 6;" + SIX_PATHS + ";path 0 2", 62);
    }

    // ---- "feud: unlike HOUSES that there are behind the LINES ahead, likewise"

    static void feud_likeHousesAtB() {
        faultBehind("narrow 0;narrow 2", "feud 0 0", 7);
        faultBehind("narrow 0;narrow 2", "feud 1 1", 7);
        faultBehind("narrow 0;narrow 2", "feud 1 01", 7);
        faultBehind("narrow 0;narrow 2", "feud 1 0", NONE);
    }

    static void feud_noSuchHouse() {
        fault("feud 0 1", 5);
        faultBehind("narrow 0", "feud 0 1", 7);
        faultBehind("narrow 0", "feud 1 0", 5);
        faultBehind("narrow 0;narrow 2", "feud 2 0", 5);
        faultBehind("narrow 0;narrow 2", "feud 0 2", 7);
        faultBehind(EIGHT, "feud 7 6", NONE);
        faultBehind(EIGHT, "feud 8 6", 5);
        faultBehind(EIGHT, "feud 6 8", 7);
    }

    static void feud_housesBehindTheLinesAhead() {
        fault("narrow 0;narrow 2;feud 0 1", NONE);
        fault("narrow 0;feud 0 1;narrow 2", 16);
        fault("feud 0 1;narrow 0;narrow 2", 5);
        faultBehind("narrow 0", "narrow 2;feud 0 1", NONE);
        faultBehind("narrow 0;narrow 2", "clear;feud 0 1", 11);
        faultBehind("narrow 0;narrow 2", "green 6;narrow 0;feud 0 1", 24);
    }

    static void feud_six() {
        faultBehind("narrow 0;narrow 2", SIX_FEUDS, NONE);
    }

    static void feud_aSeventhAtItsWord() {
        faultBehind("narrow 0;narrow 2", SIX_FEUDS + ";feud 0 1", 54);
        faultBehind("narrow 0;narrow 2", SIX_FEUDS + ";feud 9 9", 54);
        faultBehind("narrow 0;narrow 2;" + SIX_FEUDS, "feud 0 1", 0);
        faultBehind("narrow 0;narrow 2;" + SIX_FEUDS, "age;feud", 4);
    }

    static void feud_sixAgainBehindClearOrGreen() {
        String told = "narrow 0;narrow 2;" + SIX_FEUDS;
        faultBehind(told, "clear;" + told, NONE);
        faultBehind(told, "green 6;" + told, NONE);
    }

    // ---- "blanks (32) may stand ahead of, between, behind TOKENS, and need not where a TOKEN ends without"

    static void blanks_aheadBetweenBehind() {
        fault("   path   0   5   ;   age   ", NONE);
        fault(" lot 5 ; narrow 1 ", NONE);
    }

    static void blanks_needNotWhereATokenEnds() {
        fault("green12;crop11 9;narrow0;wide2;path0 5;lot77", NONE);
        fault("crop01", 6);
        fault("path 012", 5);
        fault("path 0 1path", 8);
        fault("narrow1age", 7);
    }

    static void blanks_noneWithinATokenOf() {
        fault("nar row 1", 0);
        fault("green 1 2", 6);
        fault("lot 1 2", 6);
    }

    static void blanks_noOtherByteIsOne() {
        for (int sign : new int[] {0, 9, 10, 13, 31, 33, 160, 255}) {
            fault((char) sign + "age", 0);
            fault("age" + (char) sign, 3);
            fault("narrow" + (char) sign + "1", 6);
        }
    }

    // ---- "A FAULT is at the first TOKEN (a row of small letters, a row of digits, any other byte)"

    static void tokens_lettersEndAtAAndZ() {
        fault("`age", 0);
        fault("age`", 3);
        fault("age{", 3);
        fault("crop 1 1z", 8);
        fault("crop 1 1{", 8);
        fault("agez", 0);
        fault("agea", 0);
    }

    static void tokens_digitsEndAt0And9() {
        fault("narrow /", 7);
        fault("narrow :", 7);
        fault("narrow 1/", 8);
        fault("narrow 1:", 8);
        fault("lot 9090", NONE);
        fault("lot 90900", 4);
    }

    static void tokens_anyOtherByteIsOneAlone() {
        fault("age;;", 4);
        fault("age?;", 3);
        fault("age ??", 4);
        fault("narrow ?1", 7);
    }

    static void tokens_bytesAbove127() {
        for (int sign = 128; sign < 256; sign++) {
            fault("age;" + (char) sign, 4);
        }
    }

    static void fault_atTheFirstTokenThatCannotStand() {
        fault("narrow 6;house 1;path 1 1", 7);
        fault("narrow 0;narrow 0;house 1", 16);
        fault("crop 9 99", 5);
        fault("green 99 99", 6);
    }

    static void fault_whereTheTokenBegins() {
        fault("age;    house", 8);
        fault("lot   99999", 6);
        fault("crop 1    10", 10);
    }

    static void fault_atTheEndIfItComesTooSoon() {
        String[] lines = {"green", "crop", "crop 1", "narrow", "cart", "stuck", "wide", "path", "path 1", "lot"};
        for (String line : lines) {
            fault(line, line.length());
            fault(line + "   ", line.length() + 3);
            fault("age;" + line, line.length() + 4);
        }
        faultBehind("narrow 0;narrow 2", "feud", 4);
        faultBehind("narrow 0;narrow 2", "feud 1", 6);
    }

    static void fault_atTheSemicolonThatComesTooSoon() {
        String[] lines = {"green", "crop", "crop 1", "narrow", "cart", "stuck", "wide", "path", "path 1", "lot"};
        for (String line : lines) {
            fault(line + ";age", line.length());
        }
        faultBehind("narrow 0;narrow 2", "feud 1;age", 6);
    }

    // ---- "LINES are done in their order", "what earlier texts told stays", "green: .. all else as at first", "clear"

    static void order_greenAheadOfItsPlots() {
        fault("green 12;crop 11 1", NONE);
        fault("crop 11 1;green 12", 5);
        fault("green 12;narrow 11;green 6", NONE);
        fault("narrow 3;green 6;narrow 3", NONE);
    }

    static void order_theLastToldStands() {
        NightPlots x = Check.told("crop 3 5;crop 3 7;age;lot 5;lot 9;rest;turn;lot 12");
        due("crop", x.plot(3, 1), 7);
        due("law", x.count(4), 3);
        due("seed", x.count(7), 12);
        Check.tell(x, "lot 3;rest");
        due("law", x.count(4), 2);
        due("no seed", x.count(7), NONE);
    }

    static void stays_whatEarlierTextsTold() {
        NightPlots x = Check.told("green 9;crop 8 4;narrow 1;cart 3;path 0 5;feud 0 1;turn");
        Check.tell(x, "wide 7");
        int[] want = {9, 3, 1, 1, 1};
        for (int what = 0; what < want.length; what++) {
            due("count(" + what + ")", x.count(what), want[what]);
        }
        due("crop", x.plot(8, 1), 4);
        due("house 0", x.house(0, 1), 1);
        due("house 1", x.house(1, 0), 1);
        due("house 2", x.house(2, 1), 7);
    }

    static void stays_theSeedOfAnEarlierText() {
        NightPlots x = Check.told("narrow 0;lot 9999");
        x.go(1);
        due("x", x.count(7), 57349);
        Check.tell(x, "crop 0 1");
        due("x is at its seed", x.count(7), 9999);
    }

    static void green_allElseAsAtFirst() {
        NightPlots x = Check.told("green 12;crop 11 4;crop 0 0;narrow 1;cart 3;path 0 5;feud 0 1;lot 7");
        Check.tell(x, "green 12");
        int[] want = {12, 0, 0, 0, 0, 0, NONE, NONE, 0, 4095, 0};
        for (int what = 0; what < want.length; what++) {
            due("count(" + what + ")", x.count(what), want[what]);
        }
        for (int plot = 0; plot < 12; plot++) {
            due("crop " + plot, x.plot(plot, 1), 1);
        }
    }

    static void green_aSmallerOneForgetsItsLastCrops() {
        NightPlots x = Check.told("green 12;crop 11 4;green 3;green 12");
        due("crop", x.plot(11, 1), 1);
        due("plots", x.count(0), 12);
    }

    static void clear_noHousesNoFeudsAllElseStays() {
        NightPlots x = Check.told("green 9;crop 8 4;narrow 1;cart 3;path 0 5;feud 0 1;turn");
        Check.tell(x, "clear");
        int[] want = {9, 0, 1, 0, 1, 0, 0, NONE, 0, 511, 0};
        for (int what = 0; what < want.length; what++) {
            due("count(" + what + ")", x.count(what), want[what]);
        }
        due("crop", x.plot(8, 1), 4);
        Check.tell(x, "wide 7");
        due("house 0 anew", x.house(0, 0), 3);
    }

    // ---- "Behind them it is NIGHT 0, ..": by any text without a fault, even one that tells what was so

    private static NightPlots usedByTurn() {
        NightPlots x = Check.told("green 9;narrow 1;narrow 4;narrow 7;turn");
        x.go(4);
        x.seen(0, 0, 0);
        x.keep(0);
        x.keep(1);
        Check.tell(x, "turn");
        return x;
    }

    static void behind_itIsNight0() {
        due("nights", usedByTurn().count(5), 0);
    }

    static void behind_allAreWhereTheyWereTold() {
        NightPlots x = usedByTurn();
        for (int house = 0; house < 3; house++) {
            due("plot", x.house(house, 1), 3 * house + 1);
        }
        due("empty", x.count(9), 0b101101101);
    }

    static void behind_nobodyHasRolled() {
        NightPlots x = usedByTurn();
        for (int house = 0; house < 3; house++) {
            due("rolled", x.house(house, 2), NONE);
        }
    }

    static void behind_itIsTheTurnOfHouse0() {
        due("turn", usedByTurn().count(6), 0);
    }

    static void behind_lotIsAtItsSeed() {
        NightPlots x = Check.told("narrow 0;lot 42");
        x.go(9);
        Check.tell(x, "cart 3");
        due("x", x.count(7), 42);
    }

    static void behind_nothingIsSeen() {
        due("seen", usedByTurn().count(8), 0);
    }

    static void behind_nothingIsKept() {
        NightPlots x = usedByTurn();
        due("back 0", x.back(0), NOT);
        due("back 1", x.back(1), NOT);
    }

    static void behind_theTextIsEmpty() {
        NightPlots x = usedByTurn();
        due("bytes", x.count(10), 0);
        due("fault", x.fault(), 0);
    }
}
