/** Each promise of the document by answers worked out by hand. */
public final class NightPlotsTest {
    private static final int NONE = -1, UNKNOWN = -2, OUTSIDE = -3, NOT = -4, FULL = -5;
    private static final int[] BEYOND = {Integer.MIN_VALUE, -1, 12, 13, 100, 400, Integer.MAX_VALUE};

    public static void main(String[] args) {
        constants();
        newObject();
        write();
        erase();
        faultsOfWordsAndSigns();
        faultsOfEachLetter();
        faultsOfNumbers();
        faultsOfHouses();
        faultsOfPathsAndFeuds();
        faultsOfLines();
        texts();
        greenStartsAnew();
        plot();
        house();
        as();
        can();
        wideOnes();
        goByAge();
        goByTurn();
        goByRest();
        goByLot();
        goRefused();
        roll();
        keepAndBack();
        later();
        round();
        roundRest();
        roundWithin500();
        touch();
        when();
        whenWithin399();
        often();
        brings();
        feuding();
        nearest();
        nearestFirst();
        mends();
        seen();
        laws();
        count();
        refusals();
        eightHouses();
        Check.end("NightPlotsTest");
    }

    private static void due(String what, long got, long want) {
        Check.due(what, got, want);
    }

    private static void fault(String text, int want) {
        Check.fault(text, want);
    }

    private static void faultBehind(String ahead, String text, int want) {
        Check.faultBehind(ahead, text, want);
    }

    private static void constants() {
        due("NONE", NightPlots.NONE, -1);
        due("UNKNOWN", NightPlots.UNKNOWN, -2);
        due("OUTSIDE", NightPlots.OUTSIDE, -3);
        due("NOT", NightPlots.NOT, -4);
        due("FULL", NightPlots.FULL, -5);
    }

    private static void newObject() {
        NightPlots x = new NightPlots();
        int[] want = {6, 0, 0, 0, 0, 0, NONE, NONE, 0, 63, 0};
        for (int what = 0; what < want.length; what++) {
            due("new: count(" + what + ")", x.count(what), want[what]);
        }
        for (int plot = 0; plot < 6; plot++) {
            due("new: plot", x.plot(plot, 0), NONE);
            due("new: crop", x.plot(plot, 1), 1);
        }
        due("new: house", x.house(0, 0), UNKNOWN);
        due("new: back", x.back(0), NOT);
        due("new: fault", x.fault(), 0);
        due("new: green", x.green(), NOT);
        due("new: feuding", x.feuding(99), 0);
        due("new: laws", x.laws(), 7);
        due("new: round", x.round(0), 0);
        due("new: round", x.round(1), 1);
        due("new: go", x.go(99), 99);
    }

    private static void write() {
        NightPlots x = new NightPlots();
        due("write 0", x.write(0, 0), OUTSIDE);
        due("write 9", x.write(0, 9), OUTSIDE);
        due("write -1", x.write(0, -1), OUTSIDE);
        due("write least", x.write(0, Integer.MIN_VALUE), OUTSIDE);
        due("write most", x.write(0, Integer.MAX_VALUE), OUTSIDE);
        due("write 3 of more", x.write(Check.packed("age;;;;;"), 3), 3);
        due("only 3 were written", x.fault(), NONE);
        due("write ;", x.write(Check.packed(";"), 1), 4);
        due("write turn", x.write(Check.packed("turn"), 4), 8);
        due("green", x.green(), 2);
        due("law", x.count(4), 1);
        for (int i = 1; i <= 24; i++) {
            due("write 8", x.write(Check.packed("        "), 8), 8 * i);
        }
        due("write 7", x.write(-1L, 7), 199);
        due("write 2 at 199", x.write(0, 2), FULL);
        due("bytes as they were", x.count(10), 199);
        due("write 0 at 199", x.write(0, 0), OUTSIDE);
        due("write 1 at 199", x.write(0, 1), 200);
        due("write 1 at 200", x.write(0, 1), FULL);
        due("fault at the first byte that is no blank", x.fault(), 192);
    }

    private static void erase() {
        NightPlots x = new NightPlots();
        due("erase nothing", x.erase(), 0);
        Check.write(x, "narrow 3");
        due("erase", x.erase(), 8);
        due("erase again", x.erase(), 0);
        due("bytes", x.count(10), 0);
        Check.tell(x, "narrow 4");
        due("one house", x.count(1), 1);
        due("erase behind green", x.erase(), 0);
    }

    private static void faultsOfWordsAndSigns() {
        fault("", 0);
        fault("   ", 3);
        fault("age", NONE);
        fault("  age  ", NONE);
        fault("Age", 0);
        fault("aGe", 0);
        fault("ages", 0);
        fault("ag", 0);
        fault("a ge", 0);
        fault("narrows 1", 0);
        fault("5", 0);
        fault("age.", 3);
        fault("age\t", 3);
        fault("age ,", 4);
        fault("age\u00e1", 3);
        fault("\u0000", 0);
        fault("age age", 4);
        fault("age 1", 4);
        fault("turn1", 4);
        fault("clear 0", 6);
        fault("lot5", NONE);
        fault("lot", 3);
        fault("lot ", 4);
        fault("lot x", 4);
        fault("lot 5 5", 6);
        fault("lot -5", 4);
        fault("narrow", 6);
        fault("narrow;", 6);
        fault("narrow 1 2", 9);
        fault("green 6a", 7);
        fault("crop0 5", NONE);
        fault("crop 0 5 age", 9);
        fault("path0 1", NONE);
        fault("path01", 6);
        fault("path 01", 7);
    }

    private static void faultsOfEachLetter() {
        String[] lines = {"green 6", "crop 1 1", "narrow 1", "cart 1", "stuck 1", "wide 1", "path 1 2", "feud 0 1",
            "age", "turn", "rest", "lot 1", "clear"};
        for (String line : lines) {
            faultBehind("narrow 0;narrow 4", line, NONE);
            String word = line.split(" ")[0];
            for (int i = 0; i < word.length(); i++) {
                char next = (char) (word.charAt(i) + 1);
                fault(line.substring(0, i) + next + line.substring(i + 1), 0);
                fault(line.substring(0, i) + "z" + line.substring(i), 0);
            }
            fault(word + "z", 0);
        }
    }

    private static void faultsOfNumbers() {
        fault("green 2", 6);
        fault("green 3", NONE);
        fault("green 03", NONE);
        fault("green 003", 6);
        fault("green 12", NONE);
        fault("green 13", 6);
        fault("crop 5 0", NONE);
        fault("crop 6 0", 5);
        fault("crop 05 09", NONE);
        fault("crop 005 9", 5);
        fault("crop 0 009", 7);
        fault("crop 0 10", 7);
        fault("green 12;crop 11 3", NONE);
        fault("green 12;crop 12 3", 14);
        fault("green 3;crop 3 3", 13);
        fault("lot 0", 4);
        fault("lot 0000", 4);
        fault("lot 1", NONE);
        fault("lot 0001", NONE);
        fault("lot 00001", 4);
        fault("lot 9999", NONE);
        fault("lot 10000", 4);
        fault("lot 4294967297", 4);
        fault("lot 99999999999999999999999999", 4);
    }

    private static void faultsOfHouses() {
        fault("narrow 5", NONE);
        fault("narrow 6", 7);
        fault("stuck 05", NONE);
        fault("cart 100", 5);
        fault("narrow 0;narrow 0", 16);
        fault("wide 5;narrow 0", 14);
        fault("narrow 0;wide 5", 14);
        fault("narrow 0;wide 0", 14);
        fault("narrow 1;wide 0", 14);
        fault("wide 0;wide 2;wide 4", 19);
        fault("wide 0;wide 2;narrow 4", NONE);
        fault("green 3;narrow 0;narrow 1;narrow 2", 33);
        fault("green 3;narrow 0;wide 1", 22);
        fault("narrow 3;green 6;narrow 3", NONE);
        fault("narrow 3;clear;narrow 3", NONE);
        String eight = "green 12;narrow 0;narrow 1;narrow 2;narrow 3;cart 4;cart 5;stuck 6;stuck 7";
        fault(eight, NONE);
        fault(eight + ";narrow 8", 75);
        fault(eight + ";wide 99", 75);
        fault(eight + ";clear;wide 8", NONE);
        faultBehind(eight, "cart", 0);
        faultBehind("narrow 2", "narrow 2", 7);
        faultBehind("wide 5", "narrow 0", 7);
    }

    private static void faultsOfPathsAndFeuds() {
        fault("path 0 5", NONE);
        fault("path 6 0", 5);
        fault("path 0 6", 7);
        fault("path 3 3", 7);
        fault("path 3", 6);
        String six = "path 0 1;path 0 1;path 0 1;path 1 0;path 0 2;path 0 3";
        fault(six + ";path 3 4", 54);
        faultBehind(six, "path 9 9", 0);
        faultBehind(six, "clear;path 1 2", 6);
        faultBehind(six, "green 6;path 1 2", NONE);
        fault("feud 0 1", 5);
        fault("narrow 0;feud 0 1", 16);
        fault("narrow 0;feud 0 0", 16);
        fault("narrow 0;narrow 1;feud 1 0", NONE);
        fault("narrow 0;narrow 1;feud 1 01", 25);
        fault("narrow 0;narrow 1;feud 01 1", 26);
        fault("narrow 0;narrow 1;feud 01 00", NONE);
        fault("narrow 0;narrow 1;feud 1 2", 25);
        fault("narrow 0;feud 0 1;narrow 1", 16);
        faultBehind("narrow 0;narrow 1", "feud 0 1", NONE);
        faultBehind("narrow 0;narrow 1", "clear;feud 0 1", 11);
        String feuds = "narrow 0;narrow 1;feud 0 1;feud 0 1;feud 1 0;feud 0 1;feud 0 1;feud 0 1";
        fault(feuds, NONE);
        fault(feuds + ";feud 0 1", 72);
        faultBehind(feuds, "feud", 0);
        faultBehind(feuds, "clear;narrow 0;narrow 1;feud 0 1", NONE);
    }

    private static void faultsOfLines() {
        fault(";", 0);
        fault("age;", 4);
        fault("age; ", 5);
        fault("age;;age", 4);
        fault(" ;age", 1);
        fault("age ; turn", NONE);
        fault("age:turn", 3);
        String twelve = "age;age;age;age;age;age;age;age;age;age;age;age";
        fault(twelve, NONE);
        fault(twelve + ";", 47);
        fault(twelve + " ;age", 48);
        fault(twelve + " age", 48);
        fault("narrow 0;narrow 0;xyz", 16);
    }

    private static void texts() {
        NightPlots x = Check.told(" green8 ;crop 3 7; narrow  0;cart3;stuck 5 ;wide 6;path 3 1;feud 0 3;lot0042 ");
        int[] want = {8, 4, 1, 1, 3, 0, NONE, 42, 0, 0b00010110, 0};
        for (int what = 0; what < want.length; what++) {
            due("text: count(" + what + ")", x.count(what), want[what]);
        }
        int[] kinds = {0, 1, 2, 3};
        int[] places = {0, 3, 5, 6};
        for (int house = 0; house < 4; house++) {
            due("text: kind", x.house(house, 0), kinds[house]);
            due("text: place", x.house(house, 1), places[house]);
            due("text: rolled", x.house(house, 2), NONE);
        }
        due("text: crop", x.plot(3, 1), 7);
        due("text: other crop", x.plot(2, 1), 1);
        Check.tell(x, "narrow 1;turn");
        due("more: houses", x.count(1), 5);
        due("more: crop stays", x.plot(3, 1), 7);
        due("more: paths stay", x.count(2), 1);
        due("more: law", x.count(4), 1);
        due("more: lot is none", x.count(7), NONE);
        Check.tell(x, "clear");
        due("clear: houses", x.count(1), 0);
        due("clear: feuds", x.count(3), 0);
        due("clear: paths stay", x.count(2), 1);
        due("clear: law stays", x.count(4), 1);
        due("clear: crop stays", x.plot(3, 1), 7);
        due("clear: plots stay", x.count(0), 8);
        due("clear: turn of house 0", x.count(6), 0);
        Check.tell(x, "green 9");
        int[] fresh = {9, 0, 0, 0, 0, 0, NONE, NONE, 0, 511, 0};
        for (int what = 0; what < fresh.length; what++) {
            due("green: count(" + what + ")", x.count(what), fresh[what]);
        }
        due("green: crop", x.plot(3, 1), 1);
    }

    private static void greenStartsAnew() {
        NightPlots x = Check.told("green 7;narrow 0;narrow 2;turn");
        x.go(3);
        x.seen(0, 0, 0);
        x.keep(0);
        Check.write(x, "narrow 7");
        due("refused text", x.green(), NOT);
        due("refused: nights", x.count(5), 3);
        due("refused: seen", x.count(8), 1);
        due("refused: houses", x.count(1), 2);
        due("refused: kept", x.back(0), 3);
        due("refused: bytes", x.erase(), 8);
        Check.write(x, "narrow 2");
        due("told places count, not those of now", x.fault(), 7);
        x.erase();
        Check.tell(x, "lot 3");
        due("anew: nights", x.count(5), 0);
        due("anew: seen", x.count(8), 0);
        due("anew: back", x.back(0), NOT);
        due("anew: place", x.house(0, 1), 0);
        due("anew: place", x.house(1, 1), 2);
        due("anew: rolled", x.house(0, 2), NONE);
        due("anew: seed", x.count(7), 3);
        x.go(5);
        Check.tell(x, "crop 0 0");
        due("anew: seed again", x.count(7), 3);
        Check.tell(x, "turn");
        due("anew: turn", x.count(6), 0);
        x.go(1);
        due("turn goes on", x.count(6), 1);
        Check.tell(x, "crop 0 1");
        due("anew: turn again", x.count(6), 0);
    }

    private static void plot() {
        NightPlots x = Check.told("green 7;wide 6;narrow 3;crop 6 9;crop 2 0");
        due("plot 6", x.plot(6, 0), 0);
        due("plot 0", x.plot(0, 0), 0);
        due("plot 1", x.plot(1, 0), NONE);
        due("plot 3", x.plot(3, 0), 1);
        due("crop 6", x.plot(6, 1), 9);
        due("crop 2", x.plot(2, 1), 0);
        due("crop 3", x.plot(3, 1), 1);
        due("plot 7", x.plot(7, 0), UNKNOWN);
        due("plot -1", x.plot(-1, 0), UNKNOWN);
        due("plot 7, 2", x.plot(7, 2), UNKNOWN);
        due("plot 0, 2", x.plot(0, 2), OUTSIDE);
        due("plot 0, -1", x.plot(0, -1), OUTSIDE);
        x.go(1);
        due("plot 1 then", x.plot(1, 0), 0);
        due("plot 6 then", x.plot(6, 0), NONE);
        due("empty then", x.count(9), 0b1110100);
    }

    private static void house() {
        NightPlots x = Check.told("green 5;narrow 0;narrow 2;turn");
        x.go(1);
        due("house 0 rolled now", x.house(0, 2), 0);
        due("house 1 has not", x.house(1, 2), NONE);
        x.go(1);
        due("house 0 rolled ahead", x.house(0, 2), 1);
        due("house 1 rolled now", x.house(1, 2), 0);
        due("house 0, 3", x.house(0, 3), OUTSIDE);
        due("house 0, -1", x.house(0, -1), OUTSIDE);
        due("house 2, 0", x.house(2, 0), UNKNOWN);
        due("house -1, 9", x.house(-1, 9), UNKNOWN);
    }

    private static NightPlots allKinds() {
        return Check.told("green 8;narrow 0;cart 3;stuck 5;wide 6;path 3 1;path 2 3;path 1 3;path 0 3");
    }

    private static void as() {
        NightPlots x = allKinds();
        int[][] want = {{1, 1, NOT, NOT, NOT}, {5, 5, 5, NOT, NOT}, {0, 0, NOT, 0, NOT}, {0, NOT, NOT, NOT, 0}};
        for (int house = 0; house < 4; house++) {
            for (int kind = 0; kind < 5; kind++) {
                due("as(" + house + ", " + kind + ")", x.as(house, kind), want[house][kind]);
            }
            due("as 5", x.as(house, 5), OUTSIDE);
            due("as -1", x.as(house, -1), OUTSIDE);
        }
        due("as of none", x.as(4, 0), UNKNOWN);
        due("as of none, 9", x.as(-1, 9), UNKNOWN);
    }

    private static void can() {
        NightPlots x = allKinds();
        int[][] want = {{1}, {4, 2, 1, 2, 1}, {}, {}};
        for (int house = 0; house < 4; house++) {
            for (int i = 0; i < 9; i++) {
                int due = i < want[house].length ? want[house][i] : NONE;
                due("can(" + house + ", " + i + ")", x.can(house, i), due);
            }
            due("can most", x.can(house, Integer.MAX_VALUE), NONE);
            due("can -1", x.can(house, -1), OUTSIDE);
        }
        due("can of none", x.can(4, -1), UNKNOWN);
        x = Check.told("green 12;cart 0;path 0 5;path 0 6;path 7 0;path 0 8;path 9 0;path 0 5");
        int[] row = {1, 11, 5, 6, 7, 8, 9, 5, NONE};
        for (int i = 0; i < row.length; i++) {
            due("can of eight ways", x.can(0, i), row[i]);
        }
        due("as of eight ways", x.as(0, 2), 8);
    }

    private static void wideOnes() {
        NightPlots x = Check.told("green 5;wide 3;narrow 1");
        due("wide forth", x.can(0, 0), 4);
        due("wide back", x.can(0, 1), 2);
        due("wide no more", x.can(0, 2), NONE);
        due("roll forth", x.roll(0, 4), 1);
        due("its next plot", x.plot(0, 0), 0);
        due("behind it", x.plot(3, 0), NONE);
        due("wide back only", x.can(0, 0), 3);
        due("wide back only", x.can(0, 1), NONE);
        due("beside by its next plot", x.touch(0, 1, 0), 1);
        x = Check.told("green 3;wide 2");
        due("three plots, forth", x.can(0, 0), 0);
        due("three plots, back", x.can(0, 1), 1);
    }

    private static void goByAge() {
        NightPlots x = allKinds();
        due("later 1", x.later(0, 1), 1);
        due("later 2", x.later(0, 2), 2);
        due("go", x.go(3), 3);
        due("house 0", x.house(0, 1), 1);
        due("house 1 has not", x.house(1, 2), NONE);
        x = Check.told("green 4;stuck 0;stuck 1");
        due("none can", x.go(9), 9);
        due("none rolled", x.house(0, 2), NONE);
        x = Check.told("green 5;stuck 0;narrow 1;narrow 3");
        x.go(1);
        due("the least that can", x.house(1, 1), 2);
        x.go(1);
        due("the least that can, back", x.house(1, 1), 1);
    }

    private static void goByTurn() {
        NightPlots x = Check.told("green 5;narrow 0;narrow 2;stuck 3;turn");
        int[][] want = {{1, 2, 1}, {0, 2, 1}, {0, 1, 2}, {4, 1, 1}};
        for (int night = 0; night < 4; night++) {
            due("turn: go", x.go(1), night + 1);
            due("turn: house 0", x.house(0, 1), want[night][0]);
            due("turn: house 1", x.house(1, 1), want[night][1]);
            due("turn: whose", x.count(6), want[night][2]);
        }
        x = Check.told("green 4;stuck 0;stuck 1;turn");
        x.go(5);
        due("turn: stays where none can", x.count(6), 0);
        x = Check.told("narrow 0;narrow 3;turn");
        x.go(2);
        due("turn: behind the last one", x.count(6), 0);
    }

    private static void goByRest() {
        NightPlots x = Check.told("green 5;narrow 0;narrow 1;stuck 2;rest");
        int[][] want = {{4, 1}, {4, 0}, {3, 0}, {3, 1}, {4, 1}};
        for (int night = 0; night < want.length; night++) {
            x.go(1);
            due("rest: house 0", x.house(0, 1), want[night][0]);
            due("rest: house 1", x.house(1, 1), want[night][1]);
        }
        x = Check.told("green 5;narrow 0;narrow 2;rest");
        due("rest: roll as one likes", x.roll(0, 1), 1);
        x.go(1);
        due("rest: the other one then", x.house(1, 1), 3);
        x.roll(1, 2);
        x.go(1);
        due("rest: house 0 has rested longer", x.house(0, 2), 0);
    }

    private static void goByLot() {
        NightPlots x = Check.told("green 5;narrow 0;cart 2;path 2 4;lot 7");
        due("lot: at first", x.count(7), 7);
        x.go(1);
        due("lot: x", x.count(7), 52128);
        due("lot: cart", x.house(1, 1), 1);
        due("lot: narrow", x.house(0, 2), NONE);
        x.go(1);
        due("lot: x", x.count(7), 34005);
        due("lot: cart", x.house(1, 1), 2);
        due("lot: roll", x.roll(0, 1), 3);
        due("lot: x stays", x.count(7), 34005);
        x = Check.told("green 4;stuck 0;stuck 1;lot 5");
        x.go(3);
        due("lot: x stays where none can", x.count(7), 5);
    }

    private static void goRefused() {
        NightPlots x = Check.told("narrow 0;stuck 1");
        due("go 0", x.go(0), OUTSIDE);
        due("go -1", x.go(-1), OUTSIDE);
        due("go 100", x.go(100), OUTSIDE);
        due("go most", x.go(Integer.MAX_VALUE), OUTSIDE);
        due("nothing went", x.count(5), 0);
        for (int i = 1; i <= 101; i++) {
            due("go 99", x.go(99), 99 * i);
        }
        due("go 1 too many", x.go(99), 9999 < 99 * 102 ? FULL : 0);
        due("roll when full", x.roll(0, x.can(0, 0)), FULL);
        due("roll not, when full", x.roll(1, 2), NOT);
        due("roll of none, when full", x.roll(2, 2), UNKNOWN);
        due("go 0 when full", x.go(0), OUTSIDE);
        due("still", x.count(5), 9999);
        due("foretold still", x.later(0, 2), x.house(0, 1));
        x = Check.told("narrow 0");
        for (int i = 1; i <= 102; i++) {
            due("go 98", x.go(98), 98 * i);
        }
        due("go above", x.go(4), FULL);
        due("as it was", x.count(5), 9996);
        due("go to the last", x.go(3), 9999);
        due("go 1 above", x.go(1), FULL);
    }

    private static void roll() {
        NightPlots x = allKinds();
        due("roll by path", x.roll(1, 1), 1);
        due("roll: stands", x.plot(1, 0), 1);
        due("roll: left", x.plot(3, 0), NONE);
        due("roll: rolled", x.house(1, 2), 0);
        due("roll: taken", x.roll(0, 1), NOT);
        due("roll: stays", x.roll(1, 1), NOT);
        due("roll: too far", x.roll(1, 4), NOT);
        due("roll: stuck", x.roll(2, 4), NOT);
        due("roll: none", x.roll(4, 1), UNKNOWN);
        due("roll: no plot", x.roll(1, 8), UNKNOWN);
        due("roll: no plot", x.roll(2, -1), UNKNOWN);
        due("roll: nights", x.count(5), 1);
        due("roll: path back", x.roll(1, 3), 2);
        x = Check.told("green 9;narrow 0;narrow 3;narrow 6;turn");
        x.roll(1, 4);
        due("roll: the turn of the next one", x.count(6), 2);
        x.roll(2, 5);
        due("roll: behind the last one", x.count(6), 0);
        x = Check.told("green 9;narrow 0;narrow 3");
        x.roll(1, 2);
        due("roll: no turn by age", x.count(6), NONE);
    }

    private static void keepAndBack() {
        NightPlots x = Check.told("green 7;narrow 0;narrow 3;turn");
        due("back of nothing", x.back(0), NOT);
        due("keep 2", x.keep(2), UNKNOWN);
        due("keep -1", x.keep(-1), UNKNOWN);
        due("back 2", x.back(2), UNKNOWN);
        due("back -1", x.back(-1), UNKNOWN);
        x.go(1);
        due("keep 0", x.keep(0), 1);
        x.go(4);
        due("keep 1", x.keep(1), 5);
        x.seen(0, 0, 0);
        Check.write(x, "age");
        due("back 0", x.back(0), 1);
        due("back: place", x.house(0, 1), 1);
        due("back: rolled", x.house(0, 2), 0);
        due("back: has not", x.house(1, 2), NONE);
        due("back: turn", x.count(6), 1);
        due("back: empty", x.count(9), 0b1110101);
        due("back: seen stays", x.count(8), 1);
        due("back: text stays", x.count(10), 3);
        due("back 1", x.back(1), 5);
        due("back 0 again", x.back(0), 1);
        due("keep anew", x.keep(1), 1);
        due("back to it", x.back(1), 1);
        Check.write(x, ";lot 9");
        due("a text", x.green(), 2);
        due("kept no more", x.back(0), NOT);
        due("kept no more", x.back(1), NOT);
        x.keep(0);
        x.go(7);
        due("lot is kept", x.back(0), 0);
        due("lot is kept", x.count(7), 9);
    }

    private static void later() {
        NightPlots x = Check.told("green 7;narrow 0;stuck 3");
        int[] want = {0, 1, 2, 1, 2};
        for (int t = 0; t < want.length; t++) {
            due("later " + t, x.later(0, t), want[t]);
        }
        due("later 99", x.later(0, 99), 1);
        due("later of the stuck", x.later(1, 99), 3);
        due("later 100", x.later(0, 100), OUTSIDE);
        due("later -1", x.later(0, -1), OUTSIDE);
        due("later of none", x.later(2, 100), UNKNOWN);
        due("nothing changes", x.count(5), 0);
        due("nothing changes", x.house(0, 1), 0);
    }

    private static void round() {
        NightPlots x = Check.told("green 7;narrow 0;stuck 3");
        due("round ahead", x.round(0), 1);
        due("round later", x.round(1), 2);
        x.go(1);
        due("round ahead", x.round(0), 0);
        due("round later", x.round(1), 2);
        due("round 2", x.round(2), OUTSIDE);
        due("round -1", x.round(-1), OUTSIDE);
        x = Check.told("green 9;narrow 0");
        due("round the green", x.round(1), 9);
        x = Check.told("green 4;stuck 0;lot 5");
        due("none can", x.round(0), 0);
        due("none can", x.round(1), 1);
        x = Check.told("green 9;narrow 0;narrow 4;lot 5");
        due("lot, not in 500", x.round(0), NONE);
        due("lot, not in 500", x.round(1), NONE);
        x = Check.told("green 5;narrow 0;stuck 4;turn");
        due("turn: ahead", x.round(0), 2);
        due("turn: later", x.round(1), 2);
    }

    private static void rounds(String what, NightPlots x, int ahead, int later) {
        due(what + ": ahead", x.round(0), ahead);
        due(what + ": later", x.round(1), later);
    }

    // Two on three plots, by turns: after six nights the plots are as they were, but on night 0 nobody has rolled.
    private static void roundRest() {
        NightPlots x = Check.told("green 3;narrow 0;narrow 1;rest");
        rounds("rest, nobody has rolled", x, 1, 6);
        x.keep(0);
        x.go(1);
        rounds("rest, one has rolled", x, 0, 6);
        x.go(1);
        rounds("rest, both have rolled", x, 0, 6);
        x.back(0);
        rounds("rest, nobody has rolled again", x, 1, 6);
        x = Check.told("green 3;narrow 0;narrow 1;rest");
        x.roll(0, 2);
        x.roll(0, 0);
        rounds("rest, another order than at first", x, 0, 6);
        x = Check.told("green 10;narrow 0;wide 2");
        Check.tell(x, "rest");
        rounds("rest told later", x, 1, 20);
        Check.tell(x, "turn");
        rounds("by turn night 0 is as night 20", x, 0, 20);
        roundRestOfSome();
    }

    private static void roundRestOfSome() {
        rounds("rest, none", Check.told("rest"), 0, 1);
        rounds("rest, one alone is level with nobody", Check.told("green 9;narrow 0;rest"), 0, 9);
        rounds("rest, none can", Check.told("green 4;stuck 0;stuck 1;rest"), 0, 1);
        NightPlots x = Check.told("green 5;stuck 0;stuck 1;narrow 3;rest");
        rounds("rest, two never roll", x, 1, 2);
        x.go(1);
        rounds("rest, the two stay level", x, 0, 2);
        x = Check.told("green 9;stuck 0;narrow 1;narrow 2;stuck 3;narrow 7;rest");
        rounds("rest, two cannot roll", x, 1, 2);
        x = Check.told("green 12;narrow 0;narrow 4;narrow 8;rest");
        rounds("rest, three: each rolls once first", x, 2, 36);
        x.go(1);
        rounds("rest, three, two of them level", x, 1, 36);
        x.go(1);
        rounds("rest, three, no two level", x, 0, 36);
    }

    // Worked out by the plain model: nights ahead and later are 500 together, and 501.
    private static void roundWithin500() {
        NightPlots x = Check.told("green 12;narrow 0;narrow 5;narrow 8;cart 3;cart 10;narrow 2;cart 4;"
            + "path 7 10;path 5 6;path 1 9;turn");
        due("500 together", x.round(0), 416);
        due("500 together", x.round(1), 84);
        x = Check.told("green 10;cart 9;cart 0;cart 5;narrow 7;cart 3;cart 8;stuck 4;path 7 1;path 3 0;path 3 6;turn");
        due("501 together", x.round(0), NONE);
        due("501 together", x.round(1), NONE);
        x.go(1);
        due("one fewer ahead", x.round(0), 186);
        due("as many later", x.round(1), 314);
    }

    private static void touch() {
        NightPlots x = Check.told("green 8;wide 7;narrow 2;narrow 3;cart 5");
        int[][] beside = {{-3, 0, 0, 0}, {0, -3, 1, 0}, {0, 1, -3, 0}, {0, 0, 0, -3}};
        int[][] opposite = {{-3, 0, 1, 0}, {0, -3, 0, 0}, {1, 0, -3, 0}, {0, 0, 0, -3}};
        for (int a = 0; a < 4; a++) {
            for (int b = 0; b < 4; b++) {
                due("beside " + a + " " + b, x.touch(a, b, 0), beside[a][b]);
                due("opposite " + a + " " + b, x.touch(a, b, 1), opposite[a][b]);
            }
        }
        x.roll(1, 1);
        due("beside the second plot of the wide one", x.touch(0, 1, 0), 1);
        x.roll(1, 2);
        x.roll(3, 6);
        due("beside the first plot of the wide one", x.touch(3, 0, 0), 1);
        due("opposite", x.touch(3, 1, 1), 1);
        due("what 2", x.touch(0, 1, 2), OUTSIDE);
        due("what -1", x.touch(0, 1, -1), OUTSIDE);
        due("none", x.touch(0, 4, 2), UNKNOWN);
        due("none and itself", x.touch(4, 4, 0), UNKNOWN);
        x = Check.told("green 7;narrow 0;narrow 3;narrow 4");
        due("p odd", x.touch(0, 1, 1), 0);
        due("p odd", x.touch(0, 2, 1), 0);
        x = Check.told("green 4;wide 0;narrow 2");
        due("wide, beside on both sides", x.touch(0, 1, 0), 1);
        due("wide, opposite as well", x.touch(0, 1, 1), 1);
    }

    private static void when() {
        NightPlots x = Check.told("green 12;narrow 0;stuck 6");
        due("when beside", x.when(0, 1, 0), 5);
        due("when opposite", x.when(1, 0, 1), 0);
        x.go(1);
        due("when beside", x.when(0, 1, 0), 4);
        due("when opposite never", x.when(1, 0, 1), NONE);
        due("itself", x.when(0, 0, 0), OUTSIDE);
        due("what", x.when(0, 1, 2), OUTSIDE);
        due("none", x.when(0, 2, 2), UNKNOWN);
        due("nothing changes", x.count(5), 1);
    }

    // Worked out by the plain model: in 399 nights first, and in 400.
    private static void whenWithin399() {
        NightPlots x = Check.told("green 12;narrow 2;narrow 9;cart 7;cart 0;cart 10;cart 6;path 5 8;path 2 5;lot 6209");
        due("in 399 nights", x.when(0, 2, 1), 399);
        x = Check.told("green 10;narrow 4;stuck 9;cart 8;narrow 0;cart 1;narrow 6;cart 7;path 3 8;path 4 9;lot 4483");
        due("in 400 nights", x.when(0, 4, 1), NONE);
        x.go(1);
        due("in 400 nights, from the next one", x.when(0, 4, 1), 399);
    }

    private static void often() {
        NightPlots x = Check.told("green 6;narrow 0;stuck 3");
        due("often 1", x.often(0, 1, 0, 1), 0);
        due("often 3", x.often(0, 1, 0, 3), 1);
        due("often 5", x.often(0, 1, 0, 5), 2);
        due("often 99", x.often(0, 1, 0, 99), 49);
        due("often opposite", x.often(0, 1, 1, 99), 1);
        due("days 0", x.often(0, 1, 0, 0), OUTSIDE);
        due("days 100", x.often(0, 1, 0, 100), OUTSIDE);
        due("what", x.often(0, 1, 2, 1), OUTSIDE);
        due("itself", x.often(1, 1, 0, 1), OUTSIDE);
        due("none", x.often(2, 1, 0, 0), UNKNOWN);
    }

    private static void brings() {
        NightPlots x = Check.told("green 6;crop 0 3;crop 1 5;crop 2 7;crop 5 9;narrow 0;wide 4");
        due("brings 1", x.brings(0, 1), 3);
        due("brings 3", x.brings(0, 3), 15);
        due("brings 4", x.brings(0, 4), 16);
        due("wide brings 1", x.brings(1, 1), 10);
        due("wide brings 99", x.brings(1, 99), 990);
        due("days 0", x.brings(0, 0), OUTSIDE);
        due("days 100", x.brings(0, 100), OUTSIDE);
        due("none", x.brings(2, 0), UNKNOWN);
        due("nothing changes", x.count(5), 0);
    }

    private static void feuding() {
        NightPlots x = Check.told("green 6;narrow 0;stuck 3;stuck 4;feud 0 1;feud 1 0");
        due("feuding 1", x.feuding(1), 0);
        due("feuding 3", x.feuding(3), 1);
        due("feuding 5", x.feuding(5), 2);
        Check.tell(x, "feud 1 2");
        due("feuding each day, once", x.feuding(5), 5);
        due("days 0", x.feuding(0), OUTSIDE);
        due("days 100", x.feuding(100), OUTSIDE);
        due("days 99", x.feuding(99), 99);
    }

    private static void nearest() {
        NightPlots x = Check.told("green 12;narrow 0;narrow 6");
        due("nearest", x.nearest(0, 1, 0), 5);
        due("its first roll", x.nearest(0, 1, 1), 1);
        due("likewise", x.nearest(1, 0, 0), 5);
        due("likewise", x.nearest(1, 0, 1), 1);
        x = Check.told("green 12;stuck 0;stuck 7;narrow 6");
        due("never", x.nearest(0, 1, 0), NONE);
        due("never", x.nearest(0, 1, 1), NONE);
        due("now", x.nearest(1, 2, 0), 0);
        due("now, no roll", x.nearest(1, 2, 1), NONE);
        due("five", x.nearest(2, 0, 0), 5);
        due("by house 2 alone", x.nearest(2, 0, 1), 45);
        x = Check.told("green 12;stuck 0;stuck 2;narrow 1;narrow 8");
        due("too far", x.nearest(0, 3, 0), 3);
        x = Check.told("green 12;stuck 0;stuck 4;narrow 1;narrow 3;narrow 11;narrow 5");
        due("not in five", x.nearest(0, 1, 0), NONE);
        x = Check.told("green 12;stuck 0;stuck 11;narrow 7");
        due("six", x.nearest(0, 2, 0), NONE);
        due("six", x.nearest(0, 2, 1), NONE);
        x.roll(2, 6);
        due("five then", x.nearest(0, 2, 0), 5);
        due("five then", x.nearest(0, 2, 1), 45);
        x = Check.told("green 12;stuck 0;stuck 4;narrow 1;narrow 3;narrow 11;narrow 5");
        due("itself", x.nearest(0, 0, 0), OUTSIDE);
        due("what", x.nearest(0, 1, 2), OUTSIDE);
        due("none", x.nearest(0, 6, 2), UNKNOWN);
        due("nothing changes", x.count(5), 0);
    }

    private static void nearestFirst() {
        NightPlots x = Check.told("green 12;narrow 7;cart 0;stuck 6;path 0 7");
        due("another one gives way first", x.nearest(1, 2, 0), 2);
        due("another one gives way first", x.nearest(1, 2, 1), 8);
        x = Check.told("green 12;cart 0;stuck 6;path 0 7;path 0 5");
        due("by a path", x.nearest(0, 1, 0), 1);
        due("by the first path", x.nearest(0, 1, 1), 7);
        x = Check.told("green 8;stuck 0;narrow 5;narrow 3");
        due("by houses", x.nearest(1, 2, 1), 24);
    }

    private static void mends() {
        NightPlots x = Check.told("green 8;stuck 0;stuck 4;stuck 6");
        due("cost, in three nights", x.mends(0, 1, 3, 0), 1);
        due("set, in three nights", x.mends(0, 1, 3, 1), 1);
        due("cost, not in two nights", x.mends(0, 1, 2, 0), NONE);
        due("set, not in two nights", x.mends(0, 1, 2, 1), NONE);
        due("cost of house 0", x.mends(1, 2, 9, 0), 2);
        due("set of house 1", x.mends(1, 2, 9, 1), 2);
        due("now", x.mends(1, 2, 0, 0), NONE);
        Check.tell(x, "stuck 5");
        due("beside as they are", x.mends(1, 3, 0, 0), 0);
        due("beside as they are", x.mends(1, 3, 0, 1), 0);
        due("nights 100", x.mends(0, 1, 100, 0), OUTSIDE);
        due("nights -1", x.mends(0, 1, -1, 0), OUTSIDE);
        due("what 2", x.mends(0, 1, 1, 2), OUTSIDE);
        due("itself", x.mends(1, 1, 1, 0), OUTSIDE);
        due("none", x.mends(4, 1, 100, 0), UNKNOWN);
        due("still stuck", x.can(0, 0), NONE);
        due("still stuck", x.house(0, 0), 2);
        due("nothing changes", x.count(5), 0);
        x.go(1);
        due("none went", x.house(0, 2), NONE);
        mendsOfSeveral();
    }

    // By AGE a mended one between two others goes forth as far as it can, and then there and one back.
    private static void mendsOfSeveral() {
        NightPlots x = Check.told("green 12;stuck 0;stuck 1;stuck 11;stuck 8;stuck 5;stuck 3");
        due("house 3 would not go there", x.mends(3, 4, 9, 0), 5);
        due("house 3 would not go there", x.mends(3, 4, 9, 1), 16);
        due("nor house 4 in one night", x.mends(3, 4, 1, 1), NONE);
        x = Check.told("green 12;stuck 0;stuck 2;stuck 5;turn");
        due("one is enough", x.mends(0, 1, 9, 0), 1);
        due("one is enough", x.mends(1, 2, 9, 0), 2);
        due("one in the way", x.mends(0, 2, 2, 0), NONE);
        x = Check.told("green 9;stuck 5;stuck 8;stuck 7;stuck 3;rest");
        due("house 3, or 0 and 2", x.mends(0, 3, 4, 0), 4);
        due("the least of one cost", x.mends(0, 3, 4, 1), 5);
        due("house 3 alone, in fewer nights", x.mends(0, 3, 3, 1), 8);
    }

    private static void seen() {
        NightPlots x = Check.told("green 5;narrow 0;stuck 2");
        due("seen of none", x.seen(2, 0, 100), UNKNOWN);
        due("seen at none", x.seen(0, 5, 100), UNKNOWN);
        due("seen at -1", x.seen(0, -1, 0), UNKNOWN);
        due("seen at 100", x.seen(0, 0, 100), OUTSIDE);
        due("seen at night -1", x.seen(0, 0, -1), OUTSIDE);
        for (int i = 1; i <= 8; i++) {
            due("seen", x.seen(0, 0, 11 * i + 11), i);
        }
        due("a ninth", x.seen(0, 0, 0), FULL);
        due("a ninth, of none", x.seen(2, 0, 0), UNKNOWN);
        due("a ninth, outside", x.seen(0, 0, 100), OUTSIDE);
        due("eight", x.count(8), 8);
        due("forget", x.forget(), 8);
        due("forget nothing", x.forget(), 0);
        due("none", x.count(8), 0);
        due("seen anew", x.seen(0, 0, 0), 1);
    }

    private static void laws() {
        NightPlots x = Check.told("green 7;narrow 0;narrow 3");
        due("nothing seen", x.laws(), 7);
        x.go(50);
        x.seen(0, 0, 0);
        due("night 0 is as told", x.laws(), 7);
        x.seen(0, 1, 1);
        due("all by the first night", x.laws(), 7);
        x.seen(0, 2, 2);
        due("age alone", x.laws(), 1);
        x.forget();
        x.seen(1, 4, 2);
        due("turn and rest", x.laws(), 6);
        x.seen(1, 4, 0);
        due("by none", x.laws(), 0);
        x.forget();
        x.seen(1, 3, 97);
        due("house 1 stays by age", x.laws(), 1);
        x.forget();
        x.roll(1, 4);
        due("what was rolled is not asked", x.laws(), 7);
        x = Check.told("green 5;narrow 0;narrow 2;stuck 3;lot 1");
        x.seen(0, 0, 2);
        x.seen(1, 2, 2);
        due("one in the way", x.laws(), 7);
        x.seen(1, 1, 3);
        due("turn and rest", x.laws(), 6);
        x = Check.told("green 5;wide 3");
        x.seen(0, 3, 0);
        due("a wide one is at its first plot", x.laws(), 7);
        x.seen(0, 4, 0);
        due("a wide one is at one plot", x.laws(), 0);
    }

    private static void count() {
        NightPlots x = Check.told("green 5;wide 3;narrow 1;path 0 1;feud 0 1;turn");
        Check.write(x, "age");
        x.go(2);
        x.seen(0, 0, 0);
        int[] want = {5, 2, 1, 1, 1, 2, 0, NONE, 1, 0, 3};
        want[9] = 31 & ~(1 << x.house(0, 1) | 1 << (x.house(0, 1) + 1) % 5 | 1 << x.house(1, 1));
        for (int what = 0; what < want.length; what++) {
            due("count(" + what + ")", x.count(what), want[what]);
        }
        for (int what : BEYOND) {
            due("count(" + what + ")", x.count(what), OUTSIDE);
        }
        due("count(11)", x.count(11), OUTSIDE);
    }

    private static void eightHouses() {
        NightPlots x = Check.told("green 12;narrow 0;cart 1;stuck 2;narrow 3;cart 5;stuck 7;stuck 8;narrow 10");
        Check.tell(x, "path 1 4;path 5 6;path 5 9;feud 6 7;feud 5 6;rest");
        due("eight: houses", x.count(1), 8);
        due("eight: empty", x.count(9), 1 << 4 | 1 << 6 | 1 << 9 | 1 << 11);
        due("eight: on plot 10", x.plot(10, 0), 7);
        due("eight: ways", x.as(7, 1), 2);
        due("eight: beside", x.touch(5, 6, 0), 1);
        due("eight: feuding", x.feuding(9), 9);
        due("eight: nearest", x.nearest(6, 7, 0), 1);
        due("eight: nearest", x.nearest(6, 7, 1), 149);
        due("eight: mends", x.mends(5, 4, 0, 0), NONE);
        due("eight: mends, the first to roll", x.mends(6, 7, 1, 1), NONE);
        due("eight: seen", x.seen(7, 10, 0), 1);
        due("eight: laws", x.laws(), 7);
        due("eight: go", x.go(1), 1);
        due("eight: house 0 back", x.house(0, 1), 11);
        due("eight: a ninth", x.house(8, 0), UNKNOWN);
    }

    private static void refusals() {
        NightPlots x = Check.told("green 12;narrow 0;cart 4;stuck 8;path 4 9;lot 77");
        int[] bad = {Integer.MIN_VALUE, -1, 3, 8, Integer.MAX_VALUE};
        for (int h : bad) {
            due("house", x.house(h, 9), UNKNOWN);
            due("as", x.as(h, 9), UNKNOWN);
            due("can", x.can(h, -1), UNKNOWN);
            due("roll", x.roll(h, 0), UNKNOWN);
            due("later", x.later(h, -1), UNKNOWN);
            due("touch", x.touch(h, h, 9), UNKNOWN);
            due("touch", x.touch(0, h, 0), UNKNOWN);
            due("when", x.when(h, 0, 9), UNKNOWN);
            due("often", x.often(0, h, 9, 0), UNKNOWN);
            due("brings", x.brings(h, 0), UNKNOWN);
            due("nearest", x.nearest(h, 0, 9), UNKNOWN);
            due("mends", x.mends(0, h, 100, 9), UNKNOWN);
            due("seen", x.seen(h, 0, 100), UNKNOWN);
        }
        for (int p : BEYOND) {
            due("plot", x.plot(p, 9), UNKNOWN);
            due("roll", x.roll(0, p), UNKNOWN);
            due("seen", x.seen(0, p, 0), UNKNOWN);
            due("keep", x.keep(p), UNKNOWN);
            due("back", x.back(p), UNKNOWN);
            due("round", x.round(p), OUTSIDE);
            due("touch", x.touch(0, 1, p), OUTSIDE);
            due("mends", x.mends(0, 1, 1, p), OUTSIDE);
            due("nearest", x.nearest(0, 1, p), OUTSIDE);
        }
        due("nights", x.count(5), 0);
        due("x", x.count(7), 77);
        due("seen", x.count(8), 0);
    }
}
