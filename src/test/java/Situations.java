/** Objects in which calls are refused, made anew each time. */
final class Situations {
    private Situations() {
    }

    /** Six houses of all kinds on eleven plots, some nights on; kept once, three seen, a text with a fault. */
    static NightPlots used(String law) {
        NightPlots x = Check.told("green 11;narrow 0;cart 3;stuck 5;wide 9;narrow 7;stuck 8");
        Check.tell(x, "crop 0 9;crop 10 0;path 3 6;path 8 3;feud 0 1;feud 2 4;" + law);
        x.go(3);
        x.keep(0);
        x.go(2);
        Check.roll(x, 4, x.can(4, 0));
        x.seen(0, 0, 0);
        x.seen(1, 3, 0);
        x.seen(0, 1, 1);
        Check.write(x, "narrow 2;narrow 2");
        return x;
    }

    /** Like the other one, but nothing is kept, and the text has no fault. */
    static NightPlots usedWithGoodText(String law) {
        NightPlots x = Check.told("green 12;wide 11;stuck 3;narrow 5;cart 8;path 8 1;" + law);
        x.go(7);
        x.seen(2, 5, 0);
        Check.write(x, "crop 3 3 ; lot 9");
        return x;
    }

    /** All is full: nights, the text, what was seen. */
    static NightPlots full(String law) {
        NightPlots x = Check.told("green 8;narrow 0;stuck 3;" + law);
        for (int i = 0; i < 101; i++) {
            x.go(99);
        }
        x.keep(1);
        for (int i = 0; i < 8; i++) {
            x.seen(1, 3, i);
        }
        Check.write(x, "turn" + " ".repeat(196));
        Check.due("nights", x.count(5), 9999);
        Check.due("seen", x.count(8), 8);
        Check.due("bytes", x.count(10), 200);
        return x;
    }
}
