/** Promises 1 to 4, and the speeds of section 1. */
public final class RoadTest {
    private static final Checks CHECK = new Checks();

    public static void main(String[] args) {
        aNewRoad();
        curves();
        signs();
        passRefuses();
        lastDay();
        wearOfTrains();
        cracksGrow();
        settleGrows();
        costOfSigns();
        risksAndBreaks();
        heatBears();
        wearBears();
        crackBears();
        settleBears();
        nightsEnd();
        nightsEndWithTheOldHeat();
        CHECK.finish();
    }

    /** Curves, so that a day of 40 trains wears 10, and crack comes early. */
    private static TrackNights curved(int section) {
        TrackNights x = new TrackNights();
        x.curve(section, true);
        return x;
    }

    // Promise 1
    private static void aNewRoad() {
        CHECK.promise(1, "Creates a road that is new");
        TrackNights x = new TrackNights();
        int[] due = {0, 0, 0, 0, 0, 0, 0, 0, 0, 0, 0, 0, 0, 0, 0, 20, 0};
        for (int what = 0; what <= 16; what++) {
            CHECK.is("many(" + what + ") of a new road", x.many(what), due[what]);
        }
        int[] values = {0, 0, 0, 0, 27, 0, 160, 160};
        int[] known = {0, 0, 0, 160, -1};
        for (int s = 0; s < 20; s++) {
            for (int what = 0; what < 8; what++) {
                CHECK.is("ofSection(" + s + ", " + what + ") of a new road", x.ofSection(s, what), values[what]);
            }
            for (int what = 0; what < 5; what++) {
                CHECK.is("known(" + s + ", " + what + ") of a new road", x.known(s, what), known[what]);
            }
            CHECK.is("why of a new road", x.why(s, false), 0);
            CHECK.is("why of what is known of a new road", x.why(s, true), 0);
        }
        CHECK.is("digest of a new road", x.digest(), -3007419684018226821L);
        TrackNights used = new TrackNights();
        used.sign(0, 3);
        used.pass(40, 60, 60);
        CHECK.is("another road's digest", new TrackNights().digest(), -3007419684018226821L);
    }

    // Promise 2
    private static void curves() {
        CHECK.promise(2, "Returns whether it was");
        TrackNights x = new TrackNights();
        CHECK.is("curve, first", x.curve(19, true), false);
        CHECK.is("curve, again", x.curve(19, true), true);
        CHECK.is("ofSection 5 of a curve", x.ofSection(19, 5), 1);
        CHECK.is("ofSection 5 beside it", x.ofSection(18, 5), 0);
        CHECK.is("curve no more", x.curve(19, false), true);
        CHECK.is("ofSection 5 of no curve", x.ofSection(19, 5), 0);
        CHECK.is("curve was not", x.curve(0, false), false);
        CHECK.promise(2, "if section is not 0 to 19");
        CHECK.index(x, "curve(-1)", () -> x.curve(-1, true));
        CHECK.index(x, "curve(20)", () -> x.curve(20, true));
        CHECK.index(x, "curve(least)", () -> x.curve(Integer.MIN_VALUE, true));
    }

    // Promise 3
    private static void signs() {
        CHECK.promise(3, "Returns that before");
        TrackNights x = new TrackNights();
        CHECK.is("sign, first", x.sign(7, 0), 160);
        CHECK.is("sign, second", x.sign(7, 160), 0);
        CHECK.is("sign, third", x.sign(7, 83), 160);
        CHECK.is("ofSection 6", x.ofSection(7, 6), 83);
        CHECK.is("ofSection 6 beside it", x.ofSection(6, 6), 160);
        CHECK.promise(3, "if section is not 0 to 19");
        CHECK.index(x, "sign(-1, 5)", () -> x.sign(-1, 5));
        CHECK.index(x, "sign(20, 5)", () -> x.sign(20, 5));
        CHECK.promise(3, "if speed is not 0 to 160");
        CHECK.argument(x, "sign(0, -1)", () -> x.sign(0, -1));
        CHECK.argument(x, "sign(0, 161)", () -> x.sign(0, 161));
        CHECK.promise(3, "the one that is named first is thrown");
        CHECK.index(x, "sign(20, 161)", () -> x.sign(20, 161));
    }

    // Promise 4
    private static void passRefuses() {
        CHECK.promise(4, "if trains is not 0 to 40, heat not -20 to 60, or days not 1 to 60");
        TrackNights x = new TrackNights();
        CHECK.argument(x, "pass(-1, 0, 1)", () -> x.pass(-1, 0, 1));
        CHECK.argument(x, "pass(41, 0, 1)", () -> x.pass(41, 0, 1));
        CHECK.argument(x, "pass(0, -21, 1)", () -> x.pass(0, -21, 1));
        CHECK.argument(x, "pass(0, 61, 1)", () -> x.pass(0, 61, 1));
        CHECK.argument(x, "pass(0, 0, 0)", () -> x.pass(0, 0, 0));
        CHECK.argument(x, "pass(0, 0, 61)", () -> x.pass(0, 0, 61));
        CHECK.argument(x, "pass(0, 0, most)", () -> x.pass(0, 0, Integer.MAX_VALUE));
        CHECK.promise(4, "DAY is 1 more");
        x.pass(40, 60, 60);
        x.pass(0, -20, 1);
        CHECK.is("DAY", x.many(0), 61);
        CHECK.is("HEAT", x.many(15), -20);
    }

    private static void lastDay() {
        CHECK.promise(4, "if DAY would be above 2000");
        TrackNights x = new TrackNights();
        for (int i = 0; i < 33; i++) {
            x.pass(0, 27, 60);
        }
        CHECK.state(x, "pass to 2001", () -> x.pass(0, 27, 21));
        CHECK.argument(x, "pass to 2001 with wrong trains", () -> x.pass(41, 27, 21));
        x.pass(0, 27, 20);
        CHECK.is("the last DAY", x.many(0), 2000);
        CHECK.state(x, "pass behind 2000", () -> x.pass(0, 27, 1));
        CHECK.argument(x, "pass(0, 27, 61) behind 2000", () -> x.pass(0, 27, 61));
    }

    private static void wearOfTrains() {
        CHECK.promise(4, "WEAR is TRAINS / 8 more, on a CURVE TRAINS / 4");
        TrackNights x = curved(1);
        x.pass(7, 27, 1);
        CHECK.is("WEAR of 7 trains", x.ofSection(0, 0), 0);
        CHECK.is("WEAR of 7 trains on a curve", x.ofSection(1, 0), 1);
        x.pass(31, 27, 2);
        CHECK.is("WEAR of 31 trains twice", x.ofSection(0, 0), 6);
        CHECK.is("WEAR of 31 trains twice on a curve", x.ofSection(1, 0), 15);
        x.curve(1, false);
        x.pass(8, 27, 1);
        CHECK.is("WEAR, a curve no more", x.ofSection(1, 0), 16);
        CHECK.promise(4, "all up to what is their most");
        x.pass(40, 27, 19);
        CHECK.is("WEAR is 100 at most", x.ofSection(1, 0), 100);
        CHECK.is("WEAR below 100", x.ofSection(0, 0), 100);
    }

    private static void cracksGrow() {
        CHECK.promise(4, "if it is 0, 1 more with a WEAR of 50 or more");
        TrackNights x = curved(0);
        x.pass(40, 27, 4);
        x.pass(36, 27, 1);
        CHECK.is("WEAR 49", x.ofSection(0, 0), 49);
        CHECK.is("no CRACK with a WEAR of 49", x.ofSection(0, 1), 0);
        x.pass(0, 27, 3);
        CHECK.is("still no CRACK", x.ofSection(0, 1), 0);
        x.pass(4, 27, 1);
        CHECK.is("CRACK comes on the DAY of a WEAR of 50", x.ofSection(0, 1), 1);
        CHECK.promise(4, "CRACK is 1 and CRACK / 8 more, if it is above 0; up to what is their most");
        int[] due = {2, 3, 4, 5, 6, 7, 8, 10, 12, 14, 16, 19, 22, 25, 29, 33, 38, 43, 49, 56, 60, 60};
        for (int crack : due) {
            x.pass(0, 27, 1);
            CHECK.is("CRACK grows", x.ofSection(0, 1), crack);
        }
        CHECK.is("no CRACK without WEAR", x.ofSection(5, 1), 0);
    }

    private static void settleGrows() {
        CHECK.promise(4, "SETTLE is TRAINS and 5 times TAMPS, together, / 10 more");
        TrackNights x = new TrackNights();
        x.pass(9, 27, 3);
        CHECK.is("SETTLE of 9 trains", x.ofSection(4, 2), 0);
        x.pass(19, 27, 3);
        CHECK.is("SETTLE of 19 trains, three times", x.ofSection(4, 2), 3);
        CHECK.promise(4, "all up to what is their most");
        x.pass(40, 27, 14);
        CHECK.is("SETTLE 59", x.ofSection(4, 2), 59);
        x.pass(40, 27, 1);
        CHECK.is("SETTLE is 60 at most", x.ofSection(4, 2), 60);

        CHECK.promise(4, "SETTLE is TRAINS and 5 times TAMPS, together, / 10 more");
        TrackNights y = new TrackNights();
        y.machine(0, 40);
        y.book(0, 0, 0, 5, 8);
        y.work(0, 0, 0);
        y.work(0, 0, 0);
        y.work(0, 0, 0);
        y.pass(0, 27, 5);
        y.mark(0, 0);
        y.mark(0, 1);
        y.take(0);
        y.giveBack(0);
        CHECK.is("TAMPS", y.ofSection(0, 3), 3);
        y.pass(4, 27, 1);
        CHECK.is("SETTLE of 4 trains and 3 TAMPS", y.ofSection(0, 2), 1);
        y.pass(5, 27, 1);
        CHECK.is("SETTLE of 5 trains and 3 TAMPS, together", y.ofSection(0, 2), 3);
        CHECK.is("SETTLE without TAMPS", y.ofSection(1, 2), 0);
    }

    private static void costOfSigns() {
        CHECK.promise(4, "COST is TRAINS times (160 less SIGN), / 80, more for each SECTION");
        TrackNights x = new TrackNights();
        x.sign(0, 107);
        x.sign(1, 107);
        x.pass(3, 27, 1);
        CHECK.is("COST is rounded SECTION by SECTION", x.many(9), 2);
        x.pass(3, 27, 4);
        CHECK.is("COST is rounded DAY by DAY", x.many(9), 10);
        x.sign(2, 0);
        x.pass(40, 27, 1);
        CHECK.is("COST of two signs and one of 0", x.many(9), 10 + 26 + 26 + 80);
    }

    private static void risksAndBreaks() {
        CHECK.promise(4, "each SECTION whose SIGN is above its TRUE speed is a RISK of that DAY");
        TrackNights x = curved(0);
        CHECK.is("RISKS of 4 DAYS", x.pass(40, 27, 4), 0);
        CHECK.is("RISKS of DAY 5 (SETTLE 20)", x.pass(40, 27, 1), 20);
        for (int s = 1; s < 20; s++) {
            x.sign(s, 120);
        }
        x.sign(0, 0);
        CHECK.is("RISKS, SIGNS at the TRUE speed", x.pass(0, 27, 20), 0);
        CHECK.is("CRACK by then", x.ofSection(0, 1), 56);
        CHECK.is("none BROKE", x.many(11), 0);
        CHECK.promise(4, "A SECTION with a CRACK of 60 and a SIGN above 0 BREAKS: its SIGN is 0");
        x.pass(0, 27, 2);
        CHECK.is("a SIGN of 0 does not BREAK", x.many(11), 0);
        x.sign(0, 1);
        CHECK.is("many 13", x.many(13), 1);
        int costBefore = x.many(9);
        CHECK.is("one that BREAKS is no RISK then", x.pass(8, 27, 1), 0);
        CHECK.is("BROKE", x.many(11), 1);
        CHECK.is("its SIGN", x.ofSection(0, 6), 0);
        CHECK.is("COST by the SIGN ahead of the break", x.many(9) - costBefore, 8 * 159 / 80 + 19 * (8 * 40 / 80));
        x.pass(0, 27, 5);
        CHECK.is("BROKE once", x.many(11), 1);
        x.sign(0, 160);
        x.pass(0, 27, 1);
        CHECK.is("BROKE again", x.many(11), 2);
        CHECK.is("RISKS ever", x.many(10), 20);
    }

    private static void heatBears() {
        CHECK.promise(16, "HEAT less FREE: above 30: 40, above 20: 80, below -40: 100, otherwise 160");
        int[][] due = {{47, 160, 0}, {48, 80, 4}, {57, 80, 4}, {58, 40, 4}, {60, 40, 4}, {-13, 160, 0}, {-14, 100, 4}, {-20, 100, 4}};
        for (int[] row : due) {
            TrackNights x = new TrackNights();
            int risks = x.pass(0, row[0], 1);
            CHECK.is("TRUE speed with a HEAT of " + row[0], x.ofSection(3, 7), row[1]);
            CHECK.is("why with a HEAT of " + row[0], x.why(3, false), row[2]);
            CHECK.is("known speed with a HEAT of " + row[0], x.known(3, 3), row[1]);
            CHECK.is("why by what is known with a HEAT of " + row[0], x.why(3, true), row[2]);
            CHECK.is("RISKS by the new HEAT, " + row[0], risks, row[1] < 160 ? 20 : 0);
        }
    }

    private static void bearsOn(TrackNights x, int section, int speed, int why, String what) {
        CHECK.is("TRUE speed, " + what, x.ofSection(section, 7), speed);
        CHECK.is("why, " + what, x.why(section, false), why);
    }

    private static void wearBears() {
        CHECK.promise(16, "WEAR below 60: 160, below 80: 100, below 100: 60, otherwise 20");
        TrackNights x = curved(0);
        x.pass(36, 27, 6);
        x.pass(20, 27, 1);
        CHECK.is("WEAR 59", x.ofSection(0, 0), 59);
        bearsOn(x, 0, 120, 3, "WEAR 59, SETTLE 20");
        x.pass(4, 27, 1);
        bearsOn(x, 0, 100, 1, "WEAR 60");
        TrackNights y = curved(0);
        y.pass(40, 27, 7);
        y.pass(36, 27, 1);
        CHECK.is("WEAR 79", y.ofSection(0, 0), 79);
        bearsOn(y, 0, 80, 3, "WEAR 79, SETTLE 31");
        y.pass(4, 27, 1);
        bearsOn(y, 0, 60, 1, "WEAR 80");
        TrackNights z = curved(0);
        z.pass(40, 27, 9);
        z.pass(36, 27, 1);
        CHECK.is("WEAR 99", z.ofSection(0, 0), 99);
        bearsOn(z, 0, 60, 1, "WEAR 99, SETTLE 39");
        z.pass(4, 27, 1);
        bearsOn(z, 0, 20, 1, "WEAR 100");
    }

    private static void crackBears() {
        CHECK.promise(16, "CRACK below 10: 160, below 20: 80, below 40: 40, otherwise 0");
        TrackNights x = curved(0);
        x.machine(1, 40);
        x.book(0, 0, 0, 19, 8);
        x.book(0, 0, 0, 32, 8);
        x.work(0, 0, 0);
        x.work(1, 0, 0);
        x.pass(40, 27, 5);
        x.pass(0, 27, 7);
        CHECK.is("CRACK 8", x.ofSection(0, 1), 8);
        bearsOn(x, 0, 120, 3, "CRACK 8");
        x.pass(0, 27, 1);
        bearsOn(x, 0, 80, 2, "CRACK 10");
        x.pass(0, 27, 4);
        CHECK.is("CRACK 19", x.ofSection(0, 1), 19);
        bearsOn(x, 0, 80, 2, "CRACK 19");
        x.pass(0, 27, 2);
        CHECK.is("CRACK 25", x.ofSection(0, 1), 25);
        bearsOn(x, 0, 40, 2, "CRACK 25");
        holdNight(x, 0);
        CHECK.is("CRACK 17", x.ofSection(0, 1), 17);
        x.pass(0, 27, 1);
        CHECK.is("CRACK 20", x.ofSection(0, 1), 20);
        bearsOn(x, 0, 40, 2, "CRACK 20");
        x.pass(0, 27, 5);
        CHECK.is("CRACK 39", x.ofSection(0, 1), 39);
        bearsOn(x, 0, 40, 2, "CRACK 39");
        x.pass(0, 27, 1);
        CHECK.is("CRACK 44", x.ofSection(0, 1), 44);
        bearsOn(x, 0, 0, 2, "CRACK 44");

        TrackNights y = curved(0);
        y.machine(1, 40);
        y.book(0, 0, 0, 19, 8);
        y.work(0, 0, 0);
        y.work(0, 0, 0);
        y.pass(40, 27, 5);
        y.pass(0, 27, 14);
        holdNight(y, 0);
        CHECK.is("CRACK 9", y.ofSection(0, 1), 9);
        bearsOn(y, 0, 120, 3, "CRACK 9");

        TrackNights z = curved(0);
        z.machine(1, 40);
        z.book(0, 0, 0, 23, 8);
        z.work(0, 0, 0);
        z.pass(40, 27, 5);
        z.pass(0, 27, 18);
        holdNight(z, 0);
        CHECK.is("CRACK 35", z.ofSection(0, 1), 35);
        z.pass(0, 27, 1);
        CHECK.is("CRACK 40", z.ofSection(0, 1), 40);
        bearsOn(z, 0, 0, 2, "CRACK 40");

        TrackNights w = curved(0);
        w.machine(1, 40);
        w.book(0, 0, 0, 16, 8);
        w.work(0, 0, 0);
        w.work(0, 0, 0);
        w.pass(40, 27, 5);
        w.pass(0, 27, 7);
        w.pass(0, 27, 4);
        CHECK.is("CRACK 16", w.ofSection(0, 1), 16);
        holdNight(w, 0);
        CHECK.is("CRACK 0", w.ofSection(0, 1), 0);
        bearsOn(w, 0, 120, 3, "CRACK 0");
    }

    private static void holdNight(TrackNights x, int possession) {
        x.mark(possession, 0);
        x.mark(possession, 1);
        x.take(possession);
        x.giveBack(possession);
    }

    private static void settleBears() {
        CHECK.promise(16, "SETTLE below 20: 160, below 30: 120, below 40: 80, below 50: 40, otherwise 10");
        TrackNights x = new TrackNights();
        int[][] due = {{19, 160, 0}, {20, 120, 3}, {29, 120, 3}, {30, 80, 3}, {39, 80, 3}, {40, 40, 3}, {49, 40, 3}, {50, 10, 3}, {55, 10, 3}};
        for (int[] row : due) {
            x.pass(10, 27, row[0] - x.many(0));
            CHECK.is("SETTLE", x.ofSection(11, 2), row[0]);
            bearsOn(x, 11, row[1], row[2], "SETTLE " + row[0]);
        }
    }

    private static void nightsEnd() {
        CHECK.promise(4, "BOOKED ones are MISSED; TAKEN ones are GIVEN BACK, with 2 HOURS more of OVERRUN");
        TrackNights x = new TrackNights();
        x.machine(0, 1);
        x.book(0, 0, 4, 5, 2);
        x.book(0, 5, 9, 5, 2);
        x.book(1, 5, 9, 6, 2);
        x.work(0, 0, 0);
        x.pass(0, 27, 5);
        CHECK.is("BOOKED on its DAY", x.ofPossession(1, 0), 0);
        x.mark(0, 0);
        x.mark(0, 1);
        x.take(0);
        x.mark(1, 0);
        x.mark(1, 1);
        x.pass(0, 27, 1);
        CHECK.is("TAKEN is GIVEN BACK", x.ofPossession(0, 0), 2);
        CHECK.is("with 2 of OVERRUN", x.ofPossession(0, 9), 2);
        CHECK.is("its WORK is done", x.ofMachine(0, 2), 1);
        CHECK.is("BOOKED is MISSED, also if MARKED", x.ofPossession(1, 0), 3);
        CHECK.is("OVERRUN of one that was MISSED", x.ofPossession(1, 9), 0);
        CHECK.is("BOOKED for the next one", x.ofPossession(2, 0), 0);
        CHECK.is("COST", x.many(9), 2 * 20 + 30 + 2 * 100);
        CHECK.is("OVERRUN of all", x.many(16), 2);
        x.pass(0, 27, 1);
        CHECK.is("the next one is MISSED", x.ofPossession(2, 0), 3);
        CHECK.is("many MISSED", x.many(7), 2);
    }

    private static void nightsEndWithTheOldHeat() {
        CHECK.promise(4, "GIVEN BACK with the HEAT of the DAY ahead");
        TrackNights x = new TrackNights();
        x.machine(2, 40);
        x.book(0, 0, 0, 5, 8);
        x.work(0, 0, 0);
        x.pass(40, 33, 5);
        x.mark(0, 0);
        x.mark(0, 1);
        x.take(0);
        x.pass(24, 12, 2);
        CHECK.is("FREE is the HEAT of the night", x.ofSection(0, 4), 33);
        CHECK.is("WEAR comes behind the night", x.ofSection(0, 0), 6);
        CHECK.is("SETTLE comes behind the night", x.ofSection(0, 2), 4);
        CHECK.is("the HEAT itself", x.many(15), 12);
    }
}
