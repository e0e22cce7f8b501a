import java.math.BigInteger;

/** The edges within sections 1 to 4 of the document, each with the promise by whose call it shows. */
public final class EdgesTest {
    private static final Checks CHECK = new Checks();
    private static final int TAMPER = 0;
    private static final int GRINDER = 1;
    private static final int RENEWER = 2;

    public static void main(String[] args) {
        breaksAtSixty();
        costOfOneTrain();
        risksOfAllDays();
        endedNightsStay();
        everyDrift();
        settleIsQuartered();
        crackIsGround();
        wearIsGround();
        lifeAsMuchAsTheHours();
        lifeOfZero();
        worksInTheirOrder();
        failedRenewing();
        overrunAboveTheHours();
        cancelledByDaysAhead();
        leastSightBySign();
        heatIsTheLeastOfAll();
        wornOut();
        freeDayCanBeBooked();
        digestWraps();
        CHECK.finish();
    }

    private static void takeAndGiveBack(TrackNights x, int possession) {
        x.mark(possession, 0);
        x.mark(possession, 1);
        x.take(possession);
        x.giveBack(possession);
    }

    private static void passTo(TrackNights x, int day) {
        while (x.many(0) < day) {
            x.pass(0, 27, Math.min(60, day - x.many(0)));
        }
    }

    /** WEAR 50 and CRACK 1 of section 0 on DAY 5; then CRACK grows alone, until it is to be GROUND. */
    private static TrackNights cracked(int forDay, int works) {
        TrackNights x = new TrackNights();
        x.machine(GRINDER, 99);
        x.book(0, 0, 0, forDay, 8);
        for (int i = 0; i < works; i++) {
            x.work(0, 0, 0);
        }
        x.curve(0, true);
        x.pass(40, 27, 5);
        x.curve(0, false);
        passTo(x, forDay);
        return x;
    }

    private static void breaksAtSixty() {
        CHECK.promise(4, "A SECTION with a CRACK of 60 and a SIGN above 0 BREAKS");
        TrackNights x = cracked(23, 1);
        takeAndGiveBack(x, 0);
        CHECK.is("CRACK of 43, GROUND", x.ofSection(0, 1), 35);
        x.pass(0, 27, 4);
        CHECK.is("CRACK", x.ofSection(0, 1), 59);
        CHECK.is("none BROKE with a CRACK of 59", x.many(11), 0);
        CHECK.is("its SIGN", x.ofSection(0, 6), 160);
        x.pass(0, 27, 1);
        CHECK.is("CRACK", x.ofSection(0, 1), 60);
        CHECK.is("one BROKE with a CRACK of 60", x.many(11), 1);
        CHECK.is("its SIGN", x.ofSection(0, 6), 0);
        CHECK.is("the SIGN of another", x.ofSection(1, 6), 160);
    }

    private static void costOfOneTrain() {
        CHECK.promise(4, "COST is TRAINS times (160 less SIGN), / 80, more for each SECTION");
        int[][] due = {{160, 0}, {81, 0}, {80, 1}, {1, 1}, {0, 2}};
        for (int[] row : due) {
            TrackNights x = new TrackNights();
            x.sign(13, row[0]);
            x.pass(1, 27, 1);
            CHECK.is("COST of one train with a SIGN of " + row[0], x.many(9), row[1]);
            x.pass(0, 27, 60);
            CHECK.is("COST without trains", x.many(9), row[1]);
        }
    }

    private static void risksOfAllDays() {
        CHECK.promise(4, "Returns how many RISKS there were");
        TrackNights x = new TrackNights();
        for (int s = 1; s < 20; s++) {
            x.sign(s, 0);
        }
        CHECK.is("a SIGN at the TRUE speed", x.pass(0, 47, 3), 0);
        CHECK.is("RISKS of three DAYS", x.pass(0, 48, 3), 3);
        x.sign(0, 80);
        CHECK.is("a SIGN at the TRUE speed", x.pass(0, 48, 3), 0);
        x.sign(0, 81);
        CHECK.is("one above it", x.pass(0, 48, 60), 60);
        CHECK.promise(21, "10 RISKS ever");
        CHECK.is("RISKS", x.many(10), 63);
    }

    private static void endedNightsStay() {
        CHECK.promise(4, "BOOKED ones are MISSED; TAKEN ones are GIVEN BACK: no others");
        TrackNights x = new TrackNights();
        x.book(0, 0, 0, 5, 4);
        x.book(0, 1, 1, 5, 4);
        x.book(0, 2, 2, 6, 4);
        x.pass(0, 27, 5);
        x.cancel(0);
        takeAndGiveBack(x, 1);
        int cost = x.many(9);
        x.pass(0, 27, 1);
        CHECK.is("one that was CANCELLED", x.ofPossession(0, 0), 4);
        CHECK.is("one that was GIVEN BACK", x.ofPossession(1, 0), 2);
        CHECK.is("its OVERRUN", x.ofPossession(1, 9), 0);
        CHECK.is("one of the DAY that comes", x.ofPossession(2, 0), 0);
        CHECK.is("COST", x.many(9), cost);
        CHECK.is("OVERRUN of all", x.many(16), 0);
    }

    /** Track 0 has a WEAR of 0, 2, .. 18, track 1 one of 20, 22, .. 38: each SECTION is a CURVE on so many of 20 DAYS. */
    private static TrackNights stairs() {
        TrackNights x = new TrackNights();
        for (int days = 0; days < 20; days++) {
            for (int s = 0; s < 20; s++) {
                x.curve(s, days < s);
            }
            x.pass(4, 27, 2);
        }
        return x;
    }

    private static void everyDrift() {
        for (int drift = -2; drift <= 2; drift++) {
            TrackNights x = stairs();
            x.measure(1, 0, 9, drift);
            for (int k = 0; k <= 9; k++) {
                boolean there = k + drift >= 0 && k + drift <= 9;
                String what = "KILOMETRE " + k + " of track 1, DRIFT " + drift;
                CHECK.promise(17, "the KILOMETRE that is as much as DRIFT more on that TRACK; nothing, if there is none");
                CHECK.is("the MEASURE of " + what, x.known(10 + k, 4), there ? 0 : -1);
                CHECK.is("the WEAR of " + what, x.known(10 + k, 0), there ? 20 + 2 * (k + drift) : 0);
                CHECK.promise(17, "Without any all are 0");
                CHECK.is("the WEAR of the other track", x.known(k, 0), 0);
                CHECK.is("the MEASURE of the other track", x.known(k, 4), -1);
            }
            x.align(0);
            for (int k = 0; k <= 9; k++) {
                boolean there = k - drift >= 0 && k - drift <= 9;
                String what = "KILOMETRE " + k + " of track 1, DRIFT " + drift + ", ALIGNED";
                CHECK.promise(17, "one that is ALIGNED says of it what it WROTE for the one that is DRIFT less");
                CHECK.is("the MEASURE of " + what, x.known(10 + k, 4), there ? 0 : -1);
                CHECK.is("the WEAR of " + what, x.known(10 + k, 0), there ? 20 + 2 * k : 0);
            }
        }
    }

    private static void settleIsQuartered() {
        CHECK.promise(14, "TAMPING: SETTLE is a quarter of what it was, TAMPS 1 more");
        for (int settle = 0; settle <= 60; settle++) {
            TrackNights x = new TrackNights();
            x.machine(TAMPER, 9);
            x.book(0, 4, 4, Math.max(5, settle), 2);
            x.work(0, 4, 0);
            if (settle > 0) {
                x.pass(10, 27, settle);
            }
            passTo(x, 5);
            CHECK.is("SETTLE", x.ofSection(4, 2), settle);
            takeAndGiveBack(x, 0);
            CHECK.is("SETTLE of " + settle + ", TAMPED", x.ofSection(4, 2), settle / 4);
            CHECK.is("TAMPS", x.ofSection(4, 3), 1);
            CHECK.is("SETTLE of another", x.ofSection(5, 2), settle);
        }
    }

    private static void crackIsGround() {
        CHECK.promise(14, "GRINDING: CRACK is 8 less (0 at least)");
        int[] cracks = {1, 2, 3, 4, 5, 6, 7, 8, 10, 12, 14, 16, 19, 22, 25, 29, 33, 38, 43, 49, 56, 60, 60};
        for (int i = 0; i < cracks.length; i++) {
            TrackNights x = cracked(5 + i, 1);
            CHECK.is("CRACK", x.ofSection(0, 1), cracks[i]);
            takeAndGiveBack(x, 0);
            CHECK.is("CRACK of " + cracks[i] + ", GROUND", x.ofSection(0, 1), Math.max(0, cracks[i] - 8));
            CHECK.is("WEAR of 50, GROUND", x.ofSection(0, 0), 52);
        }
        TrackNights x = cracked(13, 2);
        takeAndGiveBack(x, 0);
        CHECK.is("CRACK of 10, GROUND twice", x.ofSection(0, 1), 0);
    }

    private static void wearIsGround() {
        CHECK.promise(14, "GRINDING: WEAR 2 more (100 at most)");
        int[][] due = {{28, 97, 99}, {32, 98, 100}, {36, 99, 100}, {40, 100, 100}};
        for (int[] row : due) {
            TrackNights x = new TrackNights();
            x.curve(0, true);
            x.machine(GRINDER, 9);
            x.book(0, 0, 0, 10, 3);
            x.work(0, 0, 0);
            x.pass(40, 27, 9);
            x.pass(row[0], 27, 1);
            CHECK.is("WEAR", x.ofSection(0, 0), row[1]);
            takeAndGiveBack(x, 0);
            CHECK.is("WEAR of " + row[1] + ", GROUND", x.ofSection(0, 0), row[2]);
        }
    }

    private static void lifeAsMuchAsTheHours() {
        int[] byKind = {1, 2, 4};
        for (int kind = 0; kind < 3; kind++) {
            for (int curve = 0; curve < 2; curve++) {
                int hours = byKind[kind] + curve;
                for (int life = 0; life <= hours + 1; life++) {
                    oneWork(kind, curve, hours, life);
                }
            }
        }
    }

    /** In a POSSESSION of 8 HOURS, so that no failure makes an OVERRUN. */
    private static void oneWork(int kind, int curve, int hours, int life) {
        TrackNights x = new TrackNights();
        x.machine(kind, life);
        x.curve(0, curve == 1);
        x.book(0, 0, 0, 5, 8);
        x.work(0, 0, 0);
        x.curve(0, curve == 0);
        x.pass(0, 30, 5);
        takeAndGiveBack(x, 0);
        boolean done = life >= hours;
        String what = " of the KIND " + kind + ", a WORK of " + hours + " HOURS, a LIFE of " + life;
        CHECK.promise(14, "each if its MACHINE has a LIFE that is as much as the HOURS of it, or more: LIFE is so much less");
        CHECK.is("WORKS" + what, x.ofMachine(0, 2), done ? 1 : 0);
        CHECK.is("LIFE" + what, x.ofMachine(0, 1), done ? life - hours : 0);
        CHECK.promise(14, "Otherwise the MACHINE FAILS (each time is counted): this WORK is not done, and takes 2 HOURS more");
        CHECK.is("FAILED" + what, x.ofMachine(0, 3), done ? 0 : 1);
        CHECK.is("TAMPS" + what, x.ofSection(0, 3), done && kind == TAMPER ? 1 : 0);
        CHECK.is("WEAR" + what, x.ofSection(0, 0), done && kind == GRINDER ? 2 : 0);
        CHECK.is("FREE" + what, x.ofSection(0, 4), done && kind == RENEWER ? 30 : 27);
        int renewing = done && kind == RENEWER ? 300 : 0;
        CHECK.is("COST" + what, x.many(9), 8 * 20 + 30 * (done ? hours : hours + 2) + renewing);
    }

    private static void lifeOfZero() {
        CHECK.promise(14, "the MACHINE FAILS (each time is counted): its LIFE is 0");
        TrackNights x = new TrackNights();
        x.machine(TAMPER, 3);
        x.curve(0, true);
        x.book(0, 0, 1, 5, 8);
        x.work(0, 0, 0);
        x.work(0, 0, 0);
        x.work(0, 1, 0);
        x.pass(0, 27, 5);
        CHECK.promise(27, "which go down WORK by WORK, as there");
        CHECK.is("5 HOURS, and 2 failures: 9", x.wouldOverrun(0), 1);
        takeAndGiveBack(x, 0);
        CHECK.promise(14, "the MACHINE FAILS (each time is counted): its LIFE is 0");
        CHECK.is("OVERRUN", x.ofPossession(0, 9), 1);
        CHECK.is("the HOUR that was left is lost too", x.ofMachine(0, 3), 2);
        CHECK.is("WORKS", x.ofMachine(0, 2), 1);
        CHECK.is("TAMPS of the first", x.ofSection(0, 3), 1);
        CHECK.is("TAMPS of the last", x.ofSection(1, 3), 0);
        CHECK.promise(8, "LIFE is 40; returns its LIFE before");
        CHECK.is("service of a LIFE of 0", x.service(0), 0);
        CHECK.is("its LIFE", x.ofMachine(0, 1), 40);
        x.machine(TAMPER, 99);
        CHECK.is("service of a LIFE of 99", x.service(1), 99);
        CHECK.is("its LIFE", x.ofMachine(1, 1), 40);
    }

    private static void worksInTheirOrder() {
        CHECK.promise(14, "its WORKS are done in their order");
        for (int first = 0; first < 2; first++) {
            TrackNights x = new TrackNights();
            x.machine(GRINDER, 9);
            x.machine(RENEWER, 9);
            x.book(1, 0, 0, 5, 8);
            x.work(0, 10, first);
            x.work(0, 10, 1 - first);
            x.pass(40, 27, 5);
            takeAndGiveBack(x, 0);
            CHECK.is("WEAR, the MACHINE " + first + " first", x.ofSection(10, 0), first == 0 ? 0 : 2);
        }
    }

    private static void failedRenewing() {
        CHECK.promise(14, "30 for each that its WORKS took (also of those not done), and 300 of COST for RENEWING");
        TrackNights x = new TrackNights();
        x.machine(RENEWER, 4);
        x.book(0, 0, 1, 5, 8);
        x.work(0, 0, 0);
        x.work(0, 1, 0);
        x.pass(8, 27, 5);
        takeAndGiveBack(x, 0);
        CHECK.is("OVERRUN of 8 HOURS and a failure", x.ofPossession(0, 9), 2);
        CHECK.is("COST of one RENEWING", x.many(9), 8 * 20 + 10 * 30 + 2 * 100 + 300);
        CHECK.is("WEAR, RENEWED", x.ofSection(0, 0), 0);
        CHECK.is("WEAR, not RENEWED", x.ofSection(1, 0), 5);
    }

    /** One WORK of an HOUR fails, and takes 3: or two do, and take 6. */
    private static void overrunAboveTheHours() {
        for (int works = 0; works <= 2; works++) {
            for (int hours = 2; hours <= 8; hours++) {
                overrunOf(works, hours, false);
                overrunOf(works, hours, true);
            }
        }
    }

    private static void overrunOf(int works, int hours, boolean late) {
        TrackNights x = new TrackNights();
        x.machine(TAMPER, 0);
        x.book(0, 0, 0, 5, hours);
        for (int i = 0; i < works; i++) {
            x.work(0, 0, 0);
        }
        x.pass(0, 27, 5);
        int due = Math.max(0, 3 * works - hours);
        CHECK.promise(27, "its OVERRUN, if it was GIVEN BACK by the call");
        CHECK.is(works + " failures in " + hours + " HOURS, BOOKED", x.wouldOverrun(0), due);
        x.mark(0, 0);
        x.mark(0, 1);
        x.take(0);
        CHECK.is(works + " failures in " + hours + " HOURS, TAKEN", x.wouldOverrun(0), due);
        CHECK.promise(20, "9 its OVERRUN (0, as long as it was not GIVEN BACK)");
        CHECK.is("OVERRUN of one that is TAKEN", x.ofPossession(0, 9), 0);
        if (late) {
            CHECK.promise(4, "The OVERRUN: 0 at least, and then 2 more, if section 1 gave it BACK");
            x.pass(0, 27, 1);
            due += 2;
        } else {
            CHECK.promise(14, "The OVERRUN are the HOURS that all of these took, above those of the POSSESSION (0 at least)");
            CHECK.is(works + " failures in " + hours + " HOURS", x.giveBack(0), due);
        }
        CHECK.is(works + " failures in " + hours + " HOURS, its OVERRUN", x.ofPossession(0, 9), due);
        CHECK.is(works + " failures in " + hours + " HOURS, COST", x.many(9), 20 * hours + 90 * works + 100 * due);
        CHECK.promise(21, "16 OVERRUN of all");
        CHECK.is(works + " failures in " + hours + " HOURS, of all", x.many(16), due);
    }

    private static void cancelledByDaysAhead() {
        CHECK.promise(11, "10 of COST for each of its HOURS, if its DAY is less than 5 later");
        for (int ahead = 0; ahead <= 7; ahead++) {
            for (int hours = 2; hours <= 8; hours++) {
                TrackNights x = new TrackNights();
                x.book(0, 0, 0, 10, hours);
                x.pass(0, 27, 10 - ahead);
                int due = ahead < 5 ? 10 * hours : 0;
                CHECK.is(hours + " HOURS, " + ahead + " DAYS ahead", x.cancel(0), due);
                CHECK.is("COST of that", x.many(9), due);
                CHECK.is("its state", x.ofPossession(0, 0), 4);
            }
        }
    }

    /** SIGHT * 36 / (10 * SIGN) is 25 from a SIGHT of SIGN * 250 / 36 on, rounded up. */
    private static void leastSightBySign() {
        CHECK.promise(15, "has to be 25 seconds or more; also if both SIGNS are 0, it is SAFE");
        TrackNights own = new TrackNights();
        TrackNights beside = new TrackNights();
        own.sign(17, 0);
        beside.sign(7, 0);
        int unsafe = 0;
        for (int sign = 0; sign <= 160; sign++) {
            int least = Math.max(50, (sign * 250 + 35) / 36);
            own.sign(7, sign);
            beside.sign(17, sign);
            CHECK.is("SIGN " + sign + ", SIGHT " + least, own.walk(7, least), true);
            CHECK.is("SIGN " + sign + " on the other TRACK, SIGHT " + least, beside.walk(7, least), true);
            if (least > 50) {
                unsafe++;
                CHECK.is("SIGN " + sign + ", SIGHT " + (least - 1), own.walk(7, least - 1), false);
                CHECK.is("SIGN " + sign + " on the other TRACK, SIGHT " + (least - 1), beside.walk(7, least - 1), false);
            }
        }
        CHECK.promise(21, "12 GANGS that were UNSAFE");
        CHECK.is("UNSAFE ones", own.many(12), unsafe);
        CHECK.is("UNSAFE ones by the other TRACK", beside.many(12), unsafe);
    }

    private static void heatIsTheLeastOfAll() {
        CHECK.promise(18, "of several that bear as little the smallest number");
        TrackNights x = new TrackNights();
        x.curve(0, true);
        x.pass(40, 27, 5);
        x.pass(10, 27, 14);
        x.pass(30, 58, 2);
        CHECK.is("CRACK bears 40", x.ofSection(0, 1), 33);
        CHECK.is("SETTLE bears 40", x.ofSection(0, 2), 40);
        CHECK.is("the TRUE speed", x.ofSection(0, 7), 40);
        CHECK.is("CRACK, as SETTLE and HEAT do", x.why(0, false), 2);
        CHECK.is("SETTLE, as HEAT does", x.why(1, false), 3);
        x.measure(0, 1, 1, 0);
        CHECK.is("SETTLE that is KNOWN, as HEAT does", x.why(1, true), 3);
        CHECK.is("nothing that is KNOWN but HEAT", x.why(0, true), 4);
        x.pass(0, 27, 1);
        CHECK.is("0 nothing (it is 160)", x.why(0, true), 0);
    }

    private static void wornOut() {
        CHECK.promise(22, "the mean WEAR of its SECTIONS, not rounded");
        TrackNights x = new TrackNights();
        x.curve(3, true);
        x.pass(40, 27, 19);
        CHECK.isMean("one of 100, nine of 95", x.meanWear(0), 95.5);
        CHECK.isMean("ten of 95", x.meanWear(1), 95.0);
        x.pass(40, 27, 60);
        CHECK.isMean("the most", x.meanWear(0), 100.0);
        CHECK.promise(4, "all up to what is their most");
        for (int s = 0; s < 20; s++) {
            CHECK.is("WEAR", x.ofSection(s, 0), 100);
            CHECK.is("CRACK", x.ofSection(s, 1), 60);
            CHECK.is("SETTLE", x.ofSection(s, 2), 60);
        }
    }

    private static void freeDayCanBeBooked() {
        CHECK.promise(26, "the first DAY that is 5 or more later for which a POSSESSION could be BOOKED there");
        for (int from = 0; from < 10; from++) {
            for (int to = from; to < 10; to++) {
                TrackNights x = new TrackNights();
                x.pass(0, 27, 3);
                x.book(1, 0, 3, 8, 2);
                x.book(1, 3, 6, 9, 2);
                x.book(1, 9, 9, 8, 2);
                x.book(1, 0, 9, 10, 2);
                x.cancel(3);
                int free = x.freeDay(1, from, to);
                for (int day = 8; day < free; day++) {
                    int f = from;
                    int t = to;
                    int d = day;
                    CHECK.state(x, "from " + from + " to " + to + " for DAY " + day, () -> x.book(1, f, t, d, 2));
                }
                CHECK.is("from " + from + " to " + to + " for DAY " + free, x.book(1, from, to, free, 2), 4);
            }
        }
    }

    /** The same in numbers without a bound; its last 64 bits are the answer. */
    private static void digestWraps() {
        CHECK.promise(28, "which wraps around as a 64-bit integer");
        TrackNights x = new TrackNights();
        x.pass(40, 60, 20);
        x.machine(TAMPER, 3);
        x.book(0, 0, 9, 25, 2);
        BigInteger[] d = {BigInteger.valueOf(4809)};
        for (int w = 0; w <= 16; w++) {
            add(d, x.many(w));
        }
        for (int s = 0; s < 20; s++) {
            for (int w = 0; w <= 7; w++) {
                add(d, x.ofSection(s, w));
            }
            for (int w = 0; w <= 4; w++) {
                add(d, x.known(s, w));
            }
            add(d, x.why(s, false));
            add(d, x.why(s, true));
            add(d, x.couldSee(s));
            add(d, x.firstRisk(s, 20));
            add(d, x.bestWork(s, 20, 30));
        }
        for (int w = 0; w <= 3; w++) {
            add(d, x.ofMachine(0, w));
        }
        for (int w = 0; w <= 9; w++) {
            add(d, x.ofPossession(0, w));
        }
        add(d, x.freeDay(0, 0, 9));
        add(d, x.freeDay(1, 3, 5));
        CHECK.is("far above 64 bits", d[0].bitLength() > 64, true);
        CHECK.is("digest", x.digest(), d[0].longValue());
    }

    private static void add(BigInteger[] d, int value) {
        d[0] = d[0].multiply(BigInteger.valueOf(31)).add(BigInteger.valueOf(value));
    }
}
