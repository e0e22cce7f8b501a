/**
 * Promises 5 to 14, 20, 21 and 27: calls at a wrong time. What is full takes no more, and each state of a POSSESSION
 * takes its own calls alone.
 */
public final class StatesTest {
    private static final Checks CHECK = new Checks();

    /** The POSSESSIONS of nights(), by their numbers. */
    private static final String[] NIGHTS = {"MISSED", "GIVEN BACK", "CANCELLED", "TAKEN", "BOOKED, its end 0 MARKED",
        "BOOKED, both ends MARKED", "BOOKED for the next DAY", "BOOKED, no end MARKED"};
    /** A SECTION of each. */
    private static final int[] SECTIONS = {0, 0, 2, 4, 6, 8, 0, 10};
    private static final int NONE = -1;

    private interface Call {
        void on(TrackNights x, int possession);
    }

    public static void main(String[] args) {
        theStates();
        callsByState();
        serviceByState();
        fullOfMeasures();
        alignedIsAligned();
        fullOfMachines();
        fullOfPossessions();
        fullOfWorks();
        fullOfHours();
        sectionsInCommon();
        cancelledOnesAreNotInTheWay();
        machinesInOneNight();
        marksOnTheDay();
        CHECK.finish();
    }

    /** DAY 6, with a POSSESSION in each state; the MACHINE 0 has a WORK in one of them, or in none. */
    private static TrackNights nights(int worked) {
        TrackNights x = new TrackNights();
        x.machine(0, 40);
        x.machine(0, 40);
        x.book(0, 0, 0, 5, 4);
        x.book(0, 0, 1, 6, 4);
        x.book(0, 2, 3, 6, 4);
        x.book(0, 4, 5, 6, 4);
        x.book(0, 6, 7, 6, 4);
        x.book(0, 8, 9, 6, 4);
        x.book(0, 0, 9, 7, 4);
        x.book(1, 0, 4, 6, 4);
        if (worked != NONE) {
            x.work(worked, SECTIONS[worked], 0);
        }
        x.pass(0, 27, 6);
        takeIt(x, 1);
        x.giveBack(1);
        x.cancel(2);
        takeIt(x, 3);
        x.mark(4, 0);
        x.mark(5, 0);
        x.mark(5, 1);
        return x;
    }

    private static void takeIt(TrackNights x, int possession) {
        x.mark(possession, 0);
        x.mark(possession, 1);
        x.take(possession);
    }

    private static void theStates() {
        TrackNights x = nights(NONE);
        CHECK.promise(20, "0 its state, 8 how many ends are MARKED");
        int[] states = {3, 2, 4, 1, 0, 0, 0, 0};
        int[] marks = {0, 2, 0, 2, 1, 2, 0, 0};
        for (int p = 0; p < NIGHTS.length; p++) {
            CHECK.is("the state of one that is " + NIGHTS[p], x.ofPossession(p, 0), states[p]);
            CHECK.is("the ends MARKED of one that is " + NIGHTS[p], x.ofPossession(p, 8), marks[p]);
        }
        CHECK.promise(21, "4 to 8 how many POSSESSIONS have the state 0 to 4");
        int[] many = {4, 1, 1, 1, 1};
        for (int state = 0; state < many.length; state++) {
            CHECK.is("of the state " + state, x.many(4 + state), many[state]);
        }
    }

    /** By a letter for each POSSESSION of nights(): whether the call answers, or throws IllegalStateException. */
    private static void byState(String due, boolean workedIn, Call call) {
        for (int p = 0; p < NIGHTS.length; p++) {
            int possession = p;
            TrackNights x = nights(workedIn ? p : NONE);
            if (due.charAt(p) == 'a') {
                CHECK.answers(NIGHTS[p] + ", it", () -> call.on(x, possession));
            } else {
                CHECK.state(x, NIGHTS[p] + ", it", () -> call.on(x, possession));
            }
        }
    }

    private static void callsByState() {
        CHECK.promise(10, "if it is not BOOKED");
        byState("ssssaaaa", false, (x, p) -> x.work(p, SECTIONS[p], 1));
        CHECK.promise(11, "if it is not BOOKED");
        byState("ssssaaaa", false, (x, p) -> x.cancel(p));
        CHECK.promise(12, "if it is not BOOKED, its DAY is not this one, or that end is MARKED");
        byState("sssssssa", false, (x, p) -> x.mark(p, 0));
        byState("ssssassa", false, (x, p) -> x.mark(p, 1));
        CHECK.promise(13, "if it is not BOOKED, or not both ends are MARKED");
        byState("sssssass", false, (x, p) -> x.take(p));
        CHECK.promise(14, "if it is not TAKEN");
        byState("sssassss", false, (x, p) -> x.giveBack(p));
        CHECK.promise(27, "if it is neither BOOKED nor TAKEN");
        byState("sssaaaaa", false, (x, p) -> x.wouldOverrun(p));
    }

    private static void serviceByState() {
        CHECK.promise(8, "if it is in a POSSESSION that is TAKEN");
        byState("aaasaaaa", true, (x, p) -> x.service(0));
        byState("aaaaaaaa", true, (x, p) -> x.service(1));
    }

    private static void machinesInOneNight() {
        CHECK.promise(10, "or the MACHINE is in another one of that DAY that is BOOKED or TAKEN");
        byState("aaasssaa", true, (x, p) -> x.work(7, 10, 0));
        byState("aaaaaaaa", true, (x, p) -> x.work(7, 10, 1));
    }

    private static void fullOfMeasures() {
        CHECK.promise(5, "if there were 12");
        TrackNights x = new TrackNights();
        for (int i = 0; i < 12; i++) {
            CHECK.is("the number", x.measure(i % 2, 0, 9, 0), i);
        }
        CHECK.state(x, "the 13th", () -> x.measure(0, 0, 9, 0));
        x.align(0);
        x.align(11);
        CHECK.state(x, "the 13th, with two that are ALIGNED", () -> x.measure(1, 4, 4, 2));
        x.pass(0, 27, 60);
        CHECK.state(x, "the 13th, later", () -> x.measure(1, 4, 4, -2));
        CHECK.is("how many there are", x.many(2), 12);
    }

    private static void alignedIsAligned() {
        CHECK.promise(6, "if it is ALIGNED");
        TrackNights x = new TrackNights();
        for (int drift = -2; drift <= 2; drift++) {
            x.measure(0, 0, 9, drift);
        }
        for (int m = 4; m >= 0; m--) {
            int number = m;
            CHECK.is("its DRIFT", x.align(m), m - 2);
            CHECK.state(x, "again", () -> x.align(number));
        }
        CHECK.is("how many are ALIGNED", x.many(3), 5);
    }

    private static void fullOfMachines() {
        CHECK.promise(7, "if there are 4");
        TrackNights x = new TrackNights();
        for (int i = 0; i < 4; i++) {
            CHECK.is("the number", x.machine(i % 3, 0), i);
        }
        for (int kind = 0; kind < 3; kind++) {
            int k = kind;
            CHECK.state(x, "the 5th, of the KIND " + kind, () -> x.machine(k, 40));
        }
        CHECK.is("how many there are", x.many(1), 4);
    }

    private static void fullOfPossessions() {
        CHECK.promise(9, "if there were 16");
        TrackNights x = new TrackNights();
        for (int i = 0; i < 16; i++) {
            CHECK.is("the number", x.book(0, 0, 9, 5 + i, 2), i);
        }
        CHECK.state(x, "the 17th", () -> x.book(1, 0, 9, 5, 2));
        x.cancel(15);
        CHECK.state(x, "the 17th, with one that is CANCELLED", () -> x.book(0, 0, 9, 20, 2));
        x.pass(0, 27, 5);
        takeIt(x, 0);
        x.giveBack(0);
        x.pass(0, 27, 5);
        CHECK.state(x, "the 17th, with others MISSED and GIVEN BACK", () -> x.book(1, 0, 9, 30, 2));
    }

    private static void fullOfWorks() {
        CHECK.promise(10, "there are 6");
        TrackNights x = new TrackNights();
        x.machine(0, 40);
        x.book(0, 0, 9, 5, 8);
        for (int i = 1; i <= 6; i++) {
            CHECK.is("the HOURS of " + i, x.work(0, i, 0), i);
        }
        CHECK.state(x, "a 7th of an HOUR, with 2 HOURS left", () -> x.work(0, 7, 0));
        CHECK.is("WORKS", x.ofPossession(0, 6), 6);
    }

    private static void fullOfHours() {
        int[] byKind = {1, 2, 4};
        for (int kind = 0; kind < 3; kind++) {
            for (int curve = 0; curve < 2; curve++) {
                for (int hours = 2; hours <= 8; hours++) {
                    fillHours(kind, curve, hours, byKind[kind] + curve);
                }
            }
        }
    }

    private static void fillHours(int kind, int curve, int hours, int each) {
        TrackNights x = new TrackNights();
        x.machine(kind, 40);
        x.curve(0, curve == 1);
        x.book(0, 0, 0, 5, hours);
        String what = "of the KIND " + kind + ", on " + curve + " CURVE, in " + hours + " HOURS";
        CHECK.promise(10, "each takes 1, 2, 4 HOURS by the KIND, 1 more if the SECTION is a CURVE as it is put in");
        int fit = Math.min(6, hours / each);
        for (int i = 1; i <= fit; i++) {
            CHECK.is(i + " " + what, x.work(0, 0, 0), i * each);
        }
        CHECK.promise(10, "they would take too long");
        CHECK.state(x, "one more than " + fit + " " + what, () -> x.work(0, 0, 0));
    }

    private static void sectionsInCommon() {
        CHECK.promise(9, "or one for that DAY that is not CANCELLED has a SECTION in common with it");
        for (int track = 0; track < 2; track++) {
            for (int from = 0; from < 10; from++) {
                for (int to = from; to < 10; to++) {
                    beside(track, from, to);
                }
            }
        }
    }

    /** With one of track 0 from 3 to 5 for DAY 10. */
    private static void beside(int track, int from, int to) {
        boolean common = track == 0 && from <= 5 && to >= 3;
        for (int day = 9; day <= 11; day++) {
            int forDay = day;
            TrackNights x = new TrackNights();
            x.book(0, 3, 5, 10, 4);
            String what = "track " + track + " from " + from + " to " + to + " for DAY " + day;
            if (common && day == 10) {
                CHECK.state(x, what, () -> x.book(track, from, to, forDay, 4));
            } else {
                CHECK.answers(what, () -> x.book(track, from, to, forDay, 4));
            }
        }
    }

    private static void cancelledOnesAreNotInTheWay() {
        CHECK.promise(9, "or one for that DAY that is not CANCELLED has a SECTION in common with it");
        TrackNights x = new TrackNights();
        x.book(0, 3, 5, 10, 4);
        x.cancel(0);
        CHECK.is("where one was CANCELLED", x.book(0, 3, 5, 10, 4), 1);
        CHECK.state(x, "where another one is BOOKED", () -> x.book(0, 5, 5, 10, 4));
        x.cancel(1);
        CHECK.is("where two were CANCELLED", x.book(0, 5, 5, 10, 4), 2);
    }

    private static void marksOnTheDay() {
        CHECK.promise(12, "its DAY is not this one");
        for (int day = 0; day <= 8; day++) {
            TrackNights x = new TrackNights();
            x.book(0, 0, 0, 7, 4);
            for (int i = 0; i < day; i++) {
                x.pass(0, 27, 1);
            }
            if (day == 7) {
                CHECK.answers("on DAY " + day, () -> x.mark(0, 0));
            } else {
                CHECK.state(x, "on DAY " + day, () -> x.mark(0, 0));
            }
        }
        CHECK.promise(12, "or that end is MARKED");
        for (int first = 0; first < 2; first++) {
            int end = first;
            TrackNights x = new TrackNights();
            x.book(0, 0, 0, 5, 4);
            x.pass(0, 27, 5);
            CHECK.is("one end", x.mark(0, end), 1);
            CHECK.state(x, "it again", () -> x.mark(0, end));
            CHECK.is("the other end", x.mark(0, 1 - end), 2);
            CHECK.state(x, "it again, with both", () -> x.mark(0, end));
        }
    }
}
