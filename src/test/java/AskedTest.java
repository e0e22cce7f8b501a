/** Promises 16, 18, 21, 22, and 24 to 28. */
public final class AskedTest {
    private static final Checks CHECK = new Checks();

    public static void main(String[] args) {
        questionsRefuse();
        whyIsTheSmallestNumber();
        manyOfSections();
        meanWears();
        firstRiskRefuses();
        firstRisks();
        bestWorkRefuses();
        bestWorks();
        bestWorkOnCurves();
        bestWorkIsRoundedDayByDay();
        bestWorkRenewsByTheHeat();
        freeDays();
        wouldOverruns();
        digests();
        CHECK.finish();
    }

    private static void takeIt(TrackNights x, int possession) {
        x.mark(possession, 0);
        x.mark(possession, 1);
        x.take(possession);
    }

    // Promises 16, 18 and 21
    private static void questionsRefuse() {
        CHECK.promise(16, "if section is not 0 to 19");
        TrackNights x = new TrackNights();
        CHECK.index(x, "ofSection(-1, 0)", () -> x.ofSection(-1, 0));
        CHECK.index(x, "ofSection(20, 8)", () -> x.ofSection(20, 8));
        CHECK.promise(16, "if what is not 0 to 7");
        CHECK.argument(x, "ofSection(0, -1)", () -> x.ofSection(0, -1));
        CHECK.argument(x, "ofSection(0, 8)", () -> x.ofSection(0, 8));
        CHECK.promise(18, "if section is not 0 to 19");
        CHECK.index(x, "why(-1)", () -> x.why(-1, false));
        CHECK.index(x, "why(20)", () -> x.why(20, true));
        CHECK.promise(21, "if what is not 0 to 16");
        CHECK.argument(x, "many(-1)", () -> x.many(-1));
        CHECK.argument(x, "many(17)", () -> x.many(17));
    }

    // Promise 18
    private static void whyIsTheSmallestNumber() {
        CHECK.promise(18, "of several that bear as little the smallest number");
        TrackNights x = new TrackNights();
        x.pass(10, 48, 30);
        CHECK.is("SETTLE 30 bears 80, as HEAT does", x.why(2, false), 3);
        x.pass(0, 58, 1);
        CHECK.is("HEAT bears less", x.why(2, false), 4);
        TrackNights y = new TrackNights();
        y.pass(8, -20, 60);
        CHECK.is("WEAR", y.ofSection(2, 0), 60);
        CHECK.is("CRACK", y.ofSection(2, 1), 14);
        CHECK.is("SETTLE", y.ofSection(2, 2), 0);
        CHECK.is("CRACK bears less than WEAR and HEAT", y.why(2, false), 2);
        TrackNights z = new TrackNights();
        z.curve(2, true);
        z.pass(40, -20, 6);
        CHECK.is("TRUE speed", z.ofSection(2, 7), 100);
        CHECK.is("WEAR 60 bears 100, as HEAT does", z.why(2, false), 1);
        CHECK.is("HEAT bears less than SETTLE 24", z.why(3, false), 4);
        TrackNights w = new TrackNights();
        w.curve(2, true);
        w.pass(40, 27, 5);
        w.pass(0, 27, 8);
        w.pass(10, 27, 9);
        CHECK.is("CRACK", w.ofSection(2, 1), 38);
        CHECK.is("SETTLE", w.ofSection(2, 2), 29);
        CHECK.is("CRACK bears less than SETTLE", w.why(2, false), 2);
        TrackNights v = new TrackNights();
        v.curve(2, true);
        v.pass(40, 27, 5);
        v.pass(10, 27, 10);
        CHECK.is("CRACK bears 80", v.ofSection(2, 1), 14);
        CHECK.is("SETTLE bears 80", v.ofSection(2, 2), 30);
        CHECK.is("CRACK, as SETTLE does", v.why(2, false), 2);
    }

    // Promise 21
    private static void manyOfSections() {
        CHECK.promise(21, "13 SECTIONS whose SIGN is above their TRUE speed, 14 those whose SIGN is above their KNOWN speed");
        TrackNights x = new TrackNights();
        x.pass(0, 58, 1);
        CHECK.is("SIGNS above the TRUE speed", x.many(13), 20);
        CHECK.is("SIGNS above the KNOWN speed", x.many(14), 20);
        x.sign(4, 40);
        x.sign(5, 41);
        CHECK.is("one SIGN at it", x.many(13), 19);
        CHECK.is("one SIGN at it", x.many(14), 19);
        CHECK.is("RISKS are counted by DAY", x.many(10), 20);
        x.pass(0, 47, 1);
        CHECK.is("no SIGN above", x.many(13), 0);
        CHECK.is("RISKS ever", x.many(10), 20);
        CHECK.is("HEAT", x.many(15), 47);
        CHECK.is("DAY", x.many(0), 2);
    }

    // Promise 22
    private static void meanWears() {
        CHECK.promise(22, "not rounded: their sum divided by 10.0");
        TrackNights x = new TrackNights();
        CHECK.isMean("meanWear of a new road", x.meanWear(0), 0.0);
        x.curve(0, true);
        x.curve(11, true);
        x.curve(12, true);
        x.pass(7, 27, 3);
        CHECK.isMean("meanWear of 0", x.meanWear(0), 3 / 10.0);
        CHECK.isMean("meanWear of 1", x.meanWear(1), 6 / 10.0);
        CHECK.promise(22, "if track is not 0 or 1");
        CHECK.index(x, "meanWear(-1)", () -> x.meanWear(-1));
        CHECK.index(x, "meanWear(2)", () -> x.meanWear(2));
    }

    // Promise 24
    private static void firstRiskRefuses() {
        CHECK.promise(24, "if section is not 0 to 19");
        TrackNights x = new TrackNights();
        CHECK.index(x, "firstRisk(-1, 0)", () -> x.firstRisk(-1, 0));
        CHECK.index(x, "firstRisk(20, 41)", () -> x.firstRisk(20, 41));
        CHECK.promise(24, "if trains is not 0 to 40");
        CHECK.argument(x, "firstRisk(0, -1)", () -> x.firstRisk(0, -1));
        CHECK.argument(x, "firstRisk(0, 41)", () -> x.firstRisk(0, 41));
    }

    private static void firstRisks() {
        CHECK.promise(24, "behind how many DAYS its SIGN would be above its TRUE speed; NONE, if not within 200");
        TrackNights x = new TrackNights();
        CHECK.is("firstRisk of 40 trains: SETTLE 20", x.firstRisk(0, 40), 5);
        CHECK.is("firstRisk of 10 trains", x.firstRisk(0, 10), 20);
        CHECK.is("firstRisk of none", x.firstRisk(0, 0), -1);
        x.sign(0, 120);
        CHECK.is("firstRisk with a SIGN of 120", x.firstRisk(0, 40), 8);
        x.curve(0, true);
        CHECK.is("firstRisk on a CURVE: WEAR 60", x.firstRisk(0, 40), 6);
        x.sign(0, 0);
        CHECK.is("firstRisk with a SIGN of 0", x.firstRisk(0, 40), -1);
        x.pass(0, 58, 1);
        CHECK.promise(24, "0, if it is now");
        CHECK.is("firstRisk by HEAT, now", x.firstRisk(1, 0), 0);
        x.sign(1, 40);
        CHECK.is("firstRisk by a SIGN as HEAT bears", x.firstRisk(1, 0), -1);

        CHECK.promise(24, "behind how many DAYS its SIGN would be above its TRUE speed");
        TrackNights y = new TrackNights();
        y.curve(0, true);
        y.sign(0, 20);
        y.pass(4, 27, 1);
        y.pass(0, 27, 1);
        CHECK.is("WEAR 50 behind 49 DAYS, CRACK 43 behind 18 more", y.firstRisk(0, 4), 49 + 18);

        CHECK.promise(24, "also behind DAY 2000");
        TrackNights z = new TrackNights();
        for (int i = 0; i < 34; i++) {
            z.pass(0, 27, i < 33 ? 60 : 20);
        }
        CHECK.is("the last DAY", z.many(0), 2000);
        CHECK.is("also behind DAY 2000", z.firstRisk(0, 40), 5);
        CHECK.promise(25, "also behind DAY 2000");
        CHECK.is("bestWork also behind DAY 2000", z.bestWork(0, 40, 200), 3);

        firstRisksBehindTamping();
    }

    private static void firstRisksBehindTamping() {
        CHECK.promise(24, "behind how many DAYS its SIGN would be above its TRUE speed; NONE, if not within 200");
        TrackNights x = new TrackNights();
        x.machine(0, 40);
        x.book(0, 0, 1, 5, 8);
        x.work(0, 0, 0);
        x.pass(0, 27, 5);
        takeIt(x, 0);
        x.giveBack(0);
        CHECK.is("5 trains and a TAMP settle 1 a DAY", x.firstRisk(0, 5), 20);
        CHECK.is("4 trains and a TAMP settle nothing", x.firstRisk(0, 4), -1);
        x.sign(0, 10);
        CHECK.is("a SIGN of 10 is no RISK by SETTLE", x.firstRisk(0, 5), -1);

        TrackNights y = new TrackNights();
        y.curve(0, true);
        y.sign(0, 20);
        CHECK.is("WEAR 50 behind 50 DAYS, CRACK 43 behind 18 more", y.firstRisk(0, 4), 68);
        y.curve(0, false);
        y.sign(0, 140);
        CHECK.is("CRACK 10 behind 58 DAYS", y.firstRisk(0, 8), 58);
    }

    // Promise 25
    private static void bestWorkRefuses() {
        CHECK.promise(25, "if section is not 0 to 19");
        TrackNights x = new TrackNights();
        CHECK.index(x, "bestWork(-1, 0, 1)", () -> x.bestWork(-1, 0, 1));
        CHECK.index(x, "bestWork(20, 41, 0)", () -> x.bestWork(20, 41, 0));
        CHECK.promise(25, "if trains is not 0 to 40, or days not 1 to 200");
        CHECK.argument(x, "bestWork(0, -1, 1)", () -> x.bestWork(0, -1, 1));
        CHECK.argument(x, "bestWork(0, 41, 1)", () -> x.bestWork(0, 41, 1));
        CHECK.argument(x, "bestWork(0, 0, 0)", () -> x.bestWork(0, 0, 0));
        CHECK.argument(x, "bestWork(0, 0, 201)", () -> x.bestWork(0, 0, 201));
        CHECK.is("bestWork(0, 0, 200)", x.bestWork(0, 0, 200), 3);
    }

    private static void bestWorks() {
        CHECK.promise(25, "what is cheapest, if it was done now; of several the smallest number");
        TrackNights x = new TrackNights();
        CHECK.is("nothing, on a new road", x.bestWork(0, 40, 1), 3);
        x.pass(10, 27, 25);
        CHECK.is("SETTLE 25", x.ofSection(0, 2), 25);
        // Nothing costs 3 * 40 / 80 rounded down, 1 each DAY; with 20 trains 10 each DAY against 30.
        CHECK.is("20 trains, 2 DAYS: 20 against 30", x.bestWork(0, 20, 2), 3);
        CHECK.is("20 trains, 3 DAYS: 30 (rising to 20) against 30", x.bestWork(0, 20, 3), 0);
        CHECK.is("20 trains, 1 DAY", x.bestWork(0, 20, 1), 3);
        TrackNights y = new TrackNights();
        y.curve(0, true);
        y.pass(40, 27, 5);
        y.curve(0, false);
        y.pass(0, 27, 8);
        CHECK.is("CRACK 10", y.ofSection(0, 1), 10);
        // Nothing costs 24 for each of 4 DAYS, then 36; GRINDING 60, and 12, 12, 18, 18, 24, 24, 24.
        CHECK.is("24 trains, 5 DAYS: 132 against 144", y.bestWork(0, 24, 5), 3);
        CHECK.is("24 trains, 6 DAYS: 168 of both", y.bestWork(0, 24, 6), 1);
        CHECK.is("24 trains, 7 DAYS: 204 against 192", y.bestWork(0, 24, 7), 1);
    }

    private static void bestWorkOnCurves() {
        CHECK.promise(25, "1 HOUR more on a CURVE");
        TrackNights x = new TrackNights();
        x.pass(10, 27, 25);
        CHECK.is("3 DAYS, no CURVE", x.bestWork(0, 20, 3), 0);
        x.curve(0, true);
        CHECK.is("3 DAYS, an HOUR more on a CURVE", x.bestWork(0, 20, 3), 3);
    }

    private static void bestWorkIsRoundedDayByDay() {
        CHECK.promise(25, "for each of the DAYS TRAINS times (160 less the TRUE speed), / 80");
        TrackNights x = new TrackNights();
        x.pass(10, 27, 20);
        // SETTLE 20 bears 120: 3 trains cost 3 * 40 / 80, 1 a DAY; 45 in 30 DAYS if it was rounded at their end.
        CHECK.is("SPEED", x.ofSection(0, 7), 120);
        CHECK.is("29 DAYS of 1", x.bestWork(0, 3, 29), 3);
        CHECK.is("30 DAYS of 1", x.bestWork(0, 3, 30), 0);
    }

    private static void bestWorkRenewsByTheHeat() {
        CHECK.promise(25, "with the HEAT as it is; 300 more for RENEWING; of several the smallest number");
        TrackNights x = new TrackNights();
        x.pass(0, 60, 1);
        // A HEAT of 60 bears 40 with a FREE of 27, 160 with one of 40: 8 trains cost 12 a DAY, or nothing.
        CHECK.is("34 DAYS: 408 against 420", x.bestWork(0, 8, 34), 3);
        CHECK.is("35 DAYS: 420 of both", x.bestWork(0, 8, 35), 2);
        x.curve(0, true);
        CHECK.is("44 DAYS on a CURVE: 440 against 450", x.bestWork(0, 7, 44), 3);
        CHECK.is("45 DAYS on a CURVE: 450 of both", x.bestWork(0, 7, 45), 2);
        x.pass(0, 27, 1);
        CHECK.is("35 DAYS with another HEAT", x.bestWork(1, 8, 35), 3);
    }

    // Promise 26
    private static void freeDays() {
        CHECK.promise(26, "if track is not 0 or 1, or from or to not 0 to 9");
        TrackNights x = new TrackNights();
        CHECK.index(x, "freeDay(-1, 0, 0)", () -> x.freeDay(-1, 0, 0));
        CHECK.index(x, "freeDay(2, 1, 0)", () -> x.freeDay(2, 1, 0));
        CHECK.index(x, "freeDay(0, -1, 0)", () -> x.freeDay(0, -1, 0));
        CHECK.index(x, "freeDay(0, 10, 0)", () -> x.freeDay(0, 10, 0));
        CHECK.index(x, "freeDay(0, 0, 10)", () -> x.freeDay(0, 0, 10));
        CHECK.index(x, "freeDay(0, 0, -1)", () -> x.freeDay(0, 0, -1));
        CHECK.promise(26, "if to is below from");
        CHECK.argument(x, "freeDay(0, 1, 0)", () -> x.freeDay(0, 1, 0));
        CHECK.promise(26, "the first DAY that is 5 or more later for which a POSSESSION could be BOOKED there");
        CHECK.is("freeDay of a new road", x.freeDay(0, 0, 9), 5);
        x.book(0, 3, 5, 5, 2);
        x.book(0, 5, 9, 6, 2);
        CHECK.is("freeDay behind it", x.freeDay(0, 6, 9), 5);
        CHECK.is("freeDay ahead of it", x.freeDay(0, 0, 2), 5);
        CHECK.is("freeDay of what is BOOKED", x.freeDay(0, 0, 3), 6);
        CHECK.is("freeDay of what is BOOKED twice", x.freeDay(0, 5, 5), 7);
        CHECK.is("freeDay of the other track", x.freeDay(1, 0, 9), 5);
        x.cancel(0);
        CHECK.is("freeDay with one CANCELLED", x.freeDay(0, 5, 5), 5);
        CHECK.promise(26, "however many there were");
        for (int i = 0; i < 14; i++) {
            x.book(1, 0, 9, 5 + i, 2);
        }
        CHECK.is("freeDay with 16", x.freeDay(1, 4, 4), 19);
        CHECK.promise(26, "NONE without one up to 2000");
        for (int i = 0; i < 33; i++) {
            x.pass(0, 27, 60);
        }
        x.pass(0, 27, 15);
        CHECK.is("freeDay of the last", x.freeDay(0, 0, 0), 2000);
        x.pass(0, 27, 1);
        CHECK.is("freeDay above 2000", x.freeDay(0, 0, 0), -1);
        TrackNights y = new TrackNights();
        for (int i = 0; i < 33; i++) {
            y.pass(0, 27, 60);
        }
        y.pass(0, 27, 15);
        y.book(0, 0, 0, 2000, 2);
        CHECK.is("freeDay, the last is BOOKED", y.freeDay(0, 0, 0), -1);
        CHECK.is("freeDay beside it", y.freeDay(0, 1, 1), 2000);
    }

    // Promise 27
    private static void wouldOverruns() {
        CHECK.promise(27, "if there is no such POSSESSION");
        TrackNights x = new TrackNights();
        CHECK.index(x, "wouldOverrun(0) without one", () -> x.wouldOverrun(0));
        x.machine(1, 5);
        x.machine(0, 1);
        x.book(0, 0, 9, 5, 8);
        x.book(1, 0, 9, 5, 2);
        CHECK.index(x, "wouldOverrun(-1)", () -> x.wouldOverrun(-1));
        CHECK.index(x, "wouldOverrun(2)", () -> x.wouldOverrun(2));
        CHECK.promise(27, "its OVERRUN, if it was GIVEN BACK by the call with the LIVES of MACHINES as they are, which go down WORK by WORK");
        CHECK.is("without WORKS", x.wouldOverrun(0), 0);
        x.work(0, 0, 0);
        x.work(0, 0, 0);
        CHECK.is("4 of a LIFE of 5", x.wouldOverrun(0), 0);
        x.work(0, 0, 0);
        CHECK.is("6 of a LIFE of 5: 8 HOURS", x.wouldOverrun(0), 0);
        x.work(0, 0, 1);
        CHECK.is("7 HOURS and 2", x.wouldOverrun(0), 1);
        x.work(0, 0, 1);
        CHECK.is("8 HOURS and 4", x.wouldOverrun(0), 4);
        CHECK.is("nothing is changed", x.ofMachine(0, 1), 5);
        x.pass(0, 27, 5);
        takeIt(x, 0);
        CHECK.is("TAKEN", x.wouldOverrun(0), 4);
        CHECK.is("nothing is changed", x.ofMachine(0, 3), 0);
        CHECK.is("as giveBack does", x.giveBack(0), 4);
        CHECK.promise(27, "if it is neither BOOKED nor TAKEN");
        CHECK.state(x, "GIVEN BACK", () -> x.wouldOverrun(0));
        x.cancel(1);
        CHECK.state(x, "CANCELLED", () -> x.wouldOverrun(1));
        x.book(0, 0, 0, 10, 2);
        x.pass(0, 27, 6);
        CHECK.state(x, "MISSED", () -> x.wouldOverrun(2));

        CHECK.promise(27, "with the LIVES of MACHINES as they are");
        TrackNights y = new TrackNights();
        y.machine(2, 7);
        y.machine(0, 0);
        y.book(0, 0, 9, 5, 8);
        y.curve(1, true);
        y.work(0, 0, 0);
        y.work(0, 0, 1);
        y.work(0, 0, 1);
        y.work(0, 1, 1);
        CHECK.is("8 HOURS and 3 times 2", y.wouldOverrun(0), 6);
        y.service(1);
        CHECK.is("with the LIVES as they are", y.wouldOverrun(0), 0);
    }

    // Promise 28
    private static void digests() {
        CHECK.promise(28, "for each v in this order");
        TrackNights x = new TrackNights();
        x.machine(1, 9);
        x.machine(2, 30);
        x.curve(4, true);
        x.book(0, 2, 8, 9, 6);
        x.book(1, 3, 3, 5, 3);
        x.work(0, 4, 0);
        x.pass(33, 31, 5);
        x.measure(0, 1, 8, -1);
        x.measure(1, 0, 8, 2);
        x.align(1);
        CHECK.is("digest", x.digest(), digestOf(x));
        CHECK.is("digest, again", x.digest(), digestOf(x));
        x.pass(33, 40, 6);
        CHECK.is("digest, later", x.digest(), digestOf(x));
        x.pass(33, 60, 1);
        CHECK.is("digest by HEAT", x.digest(), digestOf(x));
        digestsAskTheRightStretches();
        digestsAskForTheRightDays();
    }

    private static void digestsAskTheRightStretches() {
        CHECK.promise(28, "freeDay() of the TRACK 0 from 0 to 9, and of 1 from 3 to 5");
        TrackNights x = new TrackNights();
        x.book(0, 0, 0, 5, 2);
        x.book(0, 9, 9, 6, 2);
        x.book(1, 3, 3, 5, 2);
        x.book(1, 5, 5, 6, 2);
        x.book(1, 2, 2, 7, 2);
        x.book(1, 6, 6, 7, 2);
        CHECK.is("freeDay of all of track 0", x.freeDay(0, 0, 9), 7);
        CHECK.is("freeDay of 3 to 5 of track 1", x.freeDay(1, 3, 5), 7);
        CHECK.is("digest with nights ahead", x.digest(), digestOf(x));
    }

    private static void digestsAskForTheRightDays() {
        CHECK.promise(28, "bestWork() with 20 and 30");
        TrackNights x = new TrackNights();
        x.curve(0, true);
        x.pass(35, 27, 6);
        x.curve(0, false);
        x.pass(19, 48, 1);
        CHECK.is("30 DAYS", x.bestWork(0, 20, 30), 0);
        CHECK.is("31 DAYS", x.bestWork(0, 20, 31), 2);
        CHECK.is("digest, 31 DAYS would differ", x.digest(), digestOf(x));

        TrackNights y = new TrackNights();
        y.machine(0, 99);
        y.book(0, 0, 0, 5, 8);
        y.work(0, 0, 0);
        y.work(0, 0, 0);
        y.work(0, 0, 0);
        y.pass(16, 1, 5);
        takeIt(y, 0);
        y.giveBack(0);
        y.pass(21, -10, 12);
        CHECK.is("29 DAYS", y.bestWork(0, 20, 29), 0);
        CHECK.is("30 DAYS", y.bestWork(0, 20, 30), 2);
        CHECK.is("digest, 29 DAYS would differ", y.digest(), digestOf(y));
    }

    private static long digestOf(TrackNights x) {
        long d = 4809;
        for (int w = 0; w <= 16; w++) {
            d = d * 31 + x.many(w);
        }
        for (int s = 0; s < 20; s++) {
            for (int w = 0; w <= 7; w++) {
                d = d * 31 + x.ofSection(s, w);
            }
            for (int w = 0; w <= 4; w++) {
                d = d * 31 + x.known(s, w);
            }
            d = d * 31 + x.why(s, false);
            d = d * 31 + x.why(s, true);
            d = d * 31 + x.couldSee(s);
            d = d * 31 + x.firstRisk(s, 20);
            d = d * 31 + x.bestWork(s, 20, 30);
        }
        for (int m = 0; m < x.many(1); m++) {
            for (int w = 0; w <= 3; w++) {
                d = d * 31 + x.ofMachine(m, w);
            }
        }
        int possessions = x.many(4) + x.many(5) + x.many(6) + x.many(7) + x.many(8);
        for (int p = 0; p < possessions; p++) {
            for (int w = 0; w <= 9; w++) {
                d = d * 31 + x.ofPossession(p, w);
            }
        }
        d = d * 31 + x.freeDay(0, 0, 9);
        return d * 31 + x.freeDay(1, 3, 5);
    }
}
