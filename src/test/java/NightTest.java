/** Promises 7 to 15, and 19 and 20. */
public final class NightTest {
    private static final Checks CHECK = new Checks();

    public static void main(String[] args) {
        machines();
        services();
        bookRefuses();
        bookedOnesKeepApart();
        atMostSixteen();
        workRefuses();
        worksTakeHours();
        machinesAreInOneNight();
        cancels();
        marks();
        takes();
        givesBack();
        failures();
        treatments();
        freeHasEdges();
        lateNights();
        walks();
        ofPossessions();
        CHECK.finish();
    }

    private static void takeIt(TrackNights x, int possession) {
        x.mark(possession, 0);
        x.mark(possession, 1);
        x.take(possession);
    }

    // Promises 7 and 19
    private static void machines() {
        CHECK.promise(7, "if kind is not 0 to 2, or life not 0 to 99");
        TrackNights x = new TrackNights();
        CHECK.argument(x, "machine(-1, 0)", () -> x.machine(-1, 0));
        CHECK.argument(x, "machine(3, 0)", () -> x.machine(3, 0));
        CHECK.argument(x, "machine(0, -1)", () -> x.machine(0, -1));
        CHECK.argument(x, "machine(0, 100)", () -> x.machine(0, 100));
        CHECK.promise(19, "if there is no such MACHINE");
        CHECK.index(x, "ofMachine(0, 0) without one", () -> x.ofMachine(0, 0));
        CHECK.promise(7, "Returns its number");
        CHECK.is("machine", x.machine(2, 99), 0);
        CHECK.is("machine", x.machine(0, 0), 1);
        CHECK.is("machine", x.machine(1, 7), 2);
        CHECK.is("machine", x.machine(1, 8), 3);
        CHECK.promise(7, "if there are 4");
        CHECK.state(x, "a fifth machine", () -> x.machine(1, 8));
        CHECK.argument(x, "a fifth machine of no kind", () -> x.machine(3, 8));
        CHECK.is("many machines", x.many(1), 4);
        CHECK.promise(19, "0 its KIND, 1 LIFE, 2 how many WORKS it did, 3 how often it FAILED");
        int[][] due = {{2, 99, 0, 0}, {0, 0, 0, 0}, {1, 7, 0, 0}, {1, 8, 0, 0}};
        for (int m = 0; m < 4; m++) {
            for (int what = 0; what < 4; what++) {
                CHECK.is("ofMachine(" + m + ", " + what + ")", x.ofMachine(m, what), due[m][what]);
            }
        }
        CHECK.promise(19, "if there is no such MACHINE");
        CHECK.index(x, "ofMachine(-1, 0)", () -> x.ofMachine(-1, 0));
        CHECK.index(x, "ofMachine(4, 7)", () -> x.ofMachine(4, 7));
        CHECK.promise(19, "if what is not 0 to 3");
        CHECK.argument(x, "ofMachine(0, -1)", () -> x.ofMachine(0, -1));
        CHECK.argument(x, "ofMachine(0, 4)", () -> x.ofMachine(0, 4));
    }

    // Promise 8
    private static void services() {
        CHECK.promise(8, "if there is no such MACHINE");
        TrackNights x = new TrackNights();
        CHECK.index(x, "service(0) without one", () -> x.service(0));
        x.machine(0, 3);
        x.machine(1, 90);
        CHECK.index(x, "service(-1)", () -> x.service(-1));
        CHECK.index(x, "service(2)", () -> x.service(2));
        CHECK.promise(8, "LIFE is 40, and 200 of COST; returns its LIFE before");
        CHECK.is("service(1)", x.service(1), 90);
        CHECK.is("LIFE behind it", x.ofMachine(1, 1), 40);
        CHECK.is("COST", x.many(9), 200);
        x.book(0, 0, 0, 5, 4);
        x.work(0, 0, 0);
        x.pass(0, 27, 5);
        CHECK.is("service in one that is BOOKED", x.service(0), 3);
        takeIt(x, 0);
        CHECK.promise(8, "if it is in a POSSESSION that is TAKEN");
        CHECK.state(x, "service in one that is TAKEN", () -> x.service(0));
        CHECK.is("service of one that is not in it", x.service(1), 40);
        x.giveBack(0);
        CHECK.is("service in one that is GIVEN BACK", x.service(0), 39);
        CHECK.is("COST", x.many(9), 4 * 200 + 4 * 20 + 30);
    }

    // Promise 9
    private static void bookRefuses() {
        CHECK.promise(9, "if track is not 0 or 1, or from or to not 0 to 9");
        TrackNights x = new TrackNights();
        x.pass(0, 27, 7);
        CHECK.index(x, "book, track -1", () -> x.book(-1, 0, 0, 20, 2));
        CHECK.index(x, "book, track 2", () -> x.book(2, 0, 0, 20, 2));
        CHECK.index(x, "book, from -1", () -> x.book(0, -1, 0, 20, 2));
        CHECK.index(x, "book, from 10", () -> x.book(0, 10, 9, 20, 2));
        CHECK.index(x, "book, to 10", () -> x.book(0, 0, 10, 20, 2));
        CHECK.index(x, "book, to -1", () -> x.book(0, 0, -1, 20, 2));
        CHECK.index(x, "book, to 10 and hours 9", () -> x.book(0, 0, 10, 20, 9));
        CHECK.promise(9, "if to is below from, day less than 5 later than DAY, or above 2000, or hours not 2 to 8");
        CHECK.argument(x, "book, to below from", () -> x.book(0, 1, 0, 20, 2));
        CHECK.argument(x, "book, DAY 11", () -> x.book(0, 0, 0, 11, 2));
        CHECK.argument(x, "book, DAY 2001", () -> x.book(0, 0, 0, 2001, 2));
        CHECK.argument(x, "book, the most of DAYS", () -> x.book(0, 0, 0, Integer.MAX_VALUE, 2));
        CHECK.argument(x, "book, the least of DAYS", () -> x.book(0, 0, 0, Integer.MIN_VALUE, 2));
        CHECK.argument(x, "book, 1 hour", () -> x.book(0, 0, 0, 20, 1));
        CHECK.argument(x, "book, 9 hours", () -> x.book(0, 0, 0, 20, 9));
        CHECK.promise(9, "Returns its number");
        CHECK.is("book, DAY 12", x.book(0, 0, 0, 12, 2), 0);
        CHECK.is("book, DAY 2000", x.book(0, 0, 9, 2000, 8), 1);
    }

    private static void bookedOnesKeepApart() {
        CHECK.promise(9, "or one for that DAY that is not CANCELLED has a SECTION in common with it");
        TrackNights x = new TrackNights();
        x.book(0, 3, 5, 10, 2);
        CHECK.state(x, "book the same", () -> x.book(0, 3, 5, 10, 2));
        CHECK.state(x, "book the last in common", () -> x.book(0, 5, 9, 10, 2));
        CHECK.state(x, "book the first in common", () -> x.book(0, 0, 3, 10, 2));
        CHECK.state(x, "book around", () -> x.book(0, 0, 9, 10, 2));
        CHECK.state(x, "book within", () -> x.book(0, 4, 4, 10, 2));
        CHECK.argument(x, "book in common, 9 hours", () -> x.book(0, 4, 4, 10, 9));
        CHECK.is("book ahead of it", x.book(0, 0, 2, 10, 2), 1);
        CHECK.is("book behind it", x.book(0, 6, 9, 10, 2), 2);
        CHECK.is("book the other track", x.book(1, 0, 9, 10, 2), 3);
        CHECK.is("book the next DAY", x.book(0, 0, 9, 11, 2), 4);
        x.cancel(0);
        CHECK.is("book what was CANCELLED", x.book(0, 3, 5, 10, 2), 5);
    }

    private static void atMostSixteen() {
        CHECK.promise(9, "if there were 16");
        TrackNights x = new TrackNights();
        for (int i = 0; i < 16; i++) {
            CHECK.is("book", x.book(0, 0, 9, 100 + i, 2), i);
        }
        CHECK.state(x, "book a 17th", () -> x.book(0, 0, 9, 200, 2));
        x.cancel(0);
        CHECK.state(x, "book a 17th with one CANCELLED", () -> x.book(0, 0, 9, 200, 2));
        CHECK.argument(x, "book a 17th for 9 hours", () -> x.book(0, 0, 9, 200, 9));
        CHECK.is("many BOOKED", x.many(4), 15);
    }

    // Promise 10
    private static void workRefuses() {
        CHECK.promise(10, "if there is no such POSSESSION, or MACHINE, or section is not 0 to 19");
        TrackNights x = new TrackNights();
        x.machine(0, 9);
        CHECK.index(x, "work without a possession", () -> x.work(0, 0, 0));
        x.book(0, 2, 5, 5, 8);
        CHECK.index(x, "work(-1)", () -> x.work(-1, 2, 0));
        CHECK.index(x, "work(1)", () -> x.work(1, 2, 0));
        CHECK.index(x, "work, machine -1", () -> x.work(0, 2, -1));
        CHECK.index(x, "work, machine 1", () -> x.work(0, 2, 1));
        CHECK.index(x, "work, section -1", () -> x.work(0, -1, 0));
        CHECK.index(x, "work, section 20", () -> x.work(0, 20, 0));
        CHECK.index(x, "work, section outside and machine 1", () -> x.work(0, 6, 1));
        CHECK.promise(10, "if the SECTION is not in the POSSESSION");
        CHECK.argument(x, "work ahead of it", () -> x.work(0, 1, 0));
        CHECK.argument(x, "work behind it", () -> x.work(0, 6, 0));
        CHECK.argument(x, "work on the other track", () -> x.work(0, 13, 0));
        for (int i = 1; i <= 6; i++) {
            CHECK.is("work " + i, x.work(0, 2 + i % 4, 0), i);
        }
        CHECK.promise(10, "there are 6");
        CHECK.state(x, "a seventh work", () -> x.work(0, 2, 0));
        CHECK.promise(10, "if it is not BOOKED");
        x.pass(0, 27, 5);
        x.book(1, 0, 0, 10, 8);
        takeIt(x, 0);
        CHECK.state(x, "work in one that is TAKEN", () -> x.work(0, 2, 0));
        CHECK.argument(x, "work in one that is TAKEN, section outside", () -> x.work(0, 1, 0));
        x.giveBack(0);
        CHECK.state(x, "work in one that is GIVEN BACK", () -> x.work(0, 2, 0));
        x.cancel(1);
        CHECK.state(x, "work in one that is CANCELLED", () -> x.work(1, 10, 0));
        x.book(1, 0, 0, 10, 8);
        x.pass(0, 27, 6);
        CHECK.state(x, "work in one that is MISSED", () -> x.work(2, 10, 0));
    }

    private static void worksTakeHours() {
        CHECK.promise(10, "each takes 1, 2, 4 HOURS by the KIND, 1 more if the SECTION is a CURVE as it is put in");
        TrackNights x = new TrackNights();
        x.machine(0, 9);
        x.machine(1, 9);
        x.machine(2, 9);
        x.curve(3, true);
        x.book(0, 2, 5, 5, 8);
        x.book(0, 2, 5, 6, 8);
        x.book(0, 2, 5, 7, 3);
        CHECK.is("a TAMPER", x.work(0, 2, 0), 1);
        CHECK.is("a GRINDER", x.work(0, 2, 1), 3);
        CHECK.is("a RENEWER", x.work(0, 2, 2), 7);
        CHECK.promise(10, "they would take too long");
        CHECK.state(x, "a GRINDER more", () -> x.work(0, 2, 1));
        CHECK.state(x, "a TAMPER more on a CURVE", () -> x.work(0, 3, 0));
        CHECK.is("a TAMPER more", x.work(0, 4, 0), 8);
        CHECK.promise(10, "1 more if the SECTION is a CURVE as it is put in");
        CHECK.is("a TAMPER on a CURVE", x.work(1, 3, 0), 2);
        x.curve(3, false);
        CHECK.is("HOURS as it was put in", x.ofPossession(1, 7), 2);
        CHECK.is("a TAMPER on what was a CURVE", x.work(1, 3, 0), 3);
        x.curve(3, true);
        CHECK.is("a RENEWER on a CURVE", x.work(1, 3, 2), 8);
        CHECK.is("a GRINDER on a CURVE", x.work(2, 3, 1), 3);
        CHECK.is("WORKS", x.ofPossession(1, 6), 3);
    }

    private static void machinesAreInOneNight() {
        CHECK.promise(10, "or the MACHINE is in another one of that DAY that is BOOKED or TAKEN");
        TrackNights x = new TrackNights();
        x.machine(0, 9);
        x.machine(0, 9);
        x.book(0, 0, 4, 5, 4);
        x.book(0, 5, 9, 5, 4);
        x.book(0, 5, 9, 6, 4);
        x.work(0, 0, 0);
        CHECK.state(x, "the MACHINE in another one", () -> x.work(1, 5, 0));
        CHECK.is("another MACHINE", x.work(1, 5, 1), 1);
        CHECK.is("the MACHINE on another DAY", x.work(2, 5, 0), 1);
        CHECK.is("the MACHINE again in the same", x.work(0, 0, 0), 2);
        x.pass(0, 27, 5);
        takeIt(x, 0);
        CHECK.state(x, "the MACHINE in one that is TAKEN", () -> x.work(1, 5, 0));
        x.giveBack(0);
        CHECK.is("the MACHINE that was GIVEN BACK", x.work(1, 5, 0), 2);
        x.book(1, 0, 0, 10, 4);
        x.book(1, 1, 1, 10, 4);
        x.work(3, 10, 0);
        x.cancel(3);
        CHECK.is("the MACHINE of one that is CANCELLED", x.work(4, 11, 0), 1);
    }

    // Promise 11
    private static void cancels() {
        CHECK.promise(11, "if there is no such POSSESSION");
        TrackNights x = new TrackNights();
        CHECK.index(x, "cancel(0) without one", () -> x.cancel(0));
        x.book(0, 0, 0, 5, 7);
        x.book(0, 0, 0, 6, 7);
        x.book(0, 0, 0, 7, 7);
        CHECK.index(x, "cancel(-1)", () -> x.cancel(-1));
        CHECK.index(x, "cancel(3)", () -> x.cancel(3));
        CHECK.promise(11, "10 of COST for each of its HOURS, if its DAY is less than 5 later");
        CHECK.is("cancel, 5 DAYS ahead", x.cancel(0), 0);
        CHECK.is("COST", x.many(9), 0);
        CHECK.state(x, "cancel again", () -> x.cancel(0));
        x.pass(0, 27, 2);
        CHECK.is("cancel, 4 DAYS ahead", x.cancel(1), 70);
        CHECK.is("COST", x.many(9), 70);
        x.pass(0, 27, 5);
        takeIt(x, 2);
        CHECK.promise(11, "if it is not BOOKED");
        CHECK.state(x, "cancel one that is TAKEN", () -> x.cancel(2));
        x.giveBack(2);
        CHECK.state(x, "cancel one that is GIVEN BACK", () -> x.cancel(2));
        x.book(0, 0, 0, 12, 2);
        x.book(0, 0, 0, 13, 3);
        x.pass(0, 27, 6);
        CHECK.state(x, "cancel one that is MISSED", () -> x.cancel(3));
        x.mark(4, 0);
        CHECK.is("COST", x.many(9), 70 + 7 * 20);
        CHECK.promise(11, "10 of COST for each of its HOURS, if its DAY is less than 5 later");
        CHECK.is("cancel on its DAY", x.cancel(4), 30);
        CHECK.is("COST", x.many(9), 70 + 7 * 20 + 30);
        CHECK.is("many CANCELLED", x.many(8), 3);
        CHECK.is("many MISSED", x.many(7), 1);
        CHECK.is("many GIVEN BACK", x.many(6), 1);
    }

    // Promise 12
    private static void marks() {
        CHECK.promise(12, "if there is no such POSSESSION, or end is not 0 or 1");
        TrackNights x = new TrackNights();
        CHECK.index(x, "mark(0, 0) without one", () -> x.mark(0, 0));
        x.book(0, 0, 0, 5, 2);
        x.book(0, 1, 1, 5, 2);
        CHECK.index(x, "mark(-1, 0)", () -> x.mark(-1, 0));
        CHECK.index(x, "mark(2, 0)", () -> x.mark(2, 0));
        CHECK.index(x, "mark(0, -1)", () -> x.mark(0, -1));
        CHECK.index(x, "mark(0, 2), not its DAY", () -> x.mark(0, 2));
        CHECK.promise(12, "its DAY is not this one");
        CHECK.state(x, "mark, not its DAY", () -> x.mark(0, 0));
        x.pass(0, 27, 4);
        CHECK.state(x, "mark, the DAY ahead", () -> x.mark(0, 0));
        x.pass(0, 27, 1);
        CHECK.promise(12, "Returns how many ends are MARKED then");
        CHECK.is("mark the second end", x.mark(0, 1), 1);
        CHECK.state(x, "mark it again", () -> x.mark(0, 1));
        CHECK.is("mark the first end", x.mark(0, 0), 2);
        CHECK.state(x, "mark it again", () -> x.mark(0, 0));
        CHECK.is("mark one of another", x.mark(1, 0), 1);
        CHECK.is("ends that are MARKED", x.ofPossession(1, 8), 1);
        x.take(0);
        CHECK.promise(12, "if it is not BOOKED");
        CHECK.state(x, "mark one that is TAKEN", () -> x.mark(0, 0));
        x.cancel(1);
        CHECK.state(x, "mark one that is CANCELLED", () -> x.mark(1, 1));
    }

    // Promise 13
    private static void takes() {
        CHECK.promise(13, "if there is no such POSSESSION");
        TrackNights x = new TrackNights();
        CHECK.index(x, "take(0) without one", () -> x.take(0));
        x.book(0, 2, 8, 5, 2);
        x.book(1, 9, 9, 5, 2);
        CHECK.index(x, "take(-1)", () -> x.take(-1));
        CHECK.index(x, "take(2)", () -> x.take(2));
        CHECK.promise(13, "or not both ends are MARKED");
        CHECK.state(x, "take one without marks", () -> x.take(0));
        x.pass(0, 27, 5);
        x.mark(0, 0);
        CHECK.state(x, "take one with one mark", () -> x.take(0));
        x.mark(0, 1);
        CHECK.promise(13, "Returns how many SECTIONS it has");
        CHECK.is("take", x.take(0), 7);
        CHECK.state(x, "take again", () -> x.take(0));
        CHECK.is("many TAKEN", x.many(5), 1);
        x.mark(1, 1);
        x.mark(1, 0);
        CHECK.is("take one of one SECTION", x.take(1), 1);
    }

    // Promise 14
    private static void givesBack() {
        CHECK.promise(14, "if there is no such POSSESSION");
        TrackNights x = new TrackNights();
        CHECK.index(x, "giveBack(0) without one", () -> x.giveBack(0));
        x.machine(0, 9);
        x.machine(1, 9);
        x.book(0, 2, 8, 5, 5);
        x.work(0, 2, 0);
        x.work(0, 3, 1);
        CHECK.index(x, "giveBack(-1)", () -> x.giveBack(-1));
        CHECK.index(x, "giveBack(1)", () -> x.giveBack(1));
        CHECK.promise(14, "if it is not TAKEN");
        CHECK.state(x, "giveBack of one that is BOOKED", () -> x.giveBack(0));
        x.pass(0, 27, 5);
        takeIt(x, 0);
        CHECK.promise(14, "its WORKS are done, each if its MACHINE has a LIFE that is as much as the HOURS of it, or more");
        CHECK.is("nothing is done yet", x.ofMachine(0, 2), 0);
        CHECK.is("giveBack", x.giveBack(0), 0);
        CHECK.state(x, "giveBack again", () -> x.giveBack(0));
        CHECK.is("state", x.ofPossession(0, 0), 2);
        CHECK.is("COST", x.many(9), 5 * 20 + 3 * 30);
        CHECK.is("LIFE of the TAMPER", x.ofMachine(0, 1), 8);
        CHECK.is("LIFE of the GRINDER", x.ofMachine(1, 1), 7);
        CHECK.is("WORKS of the GRINDER", x.ofMachine(1, 2), 1);
    }

    private static void failures() {
        CHECK.promise(14, "the MACHINE FAILS: its LIFE is 0, this WORK is not done, and takes 2 HOURS more");
        TrackNights x = new TrackNights();
        x.machine(2, 7);
        x.machine(0, 1);
        x.book(0, 0, 9, 5, 8);
        x.book(1, 0, 9, 5, 2);
        x.work(0, 0, 0);
        x.work(0, 1, 0);
        x.work(1, 15, 1);
        x.pass(16, 27, 5);
        takeIt(x, 0);
        takeIt(x, 1);
        CHECK.is("wouldOverrun", x.wouldOverrun(0), 2);
        CHECK.is("giveBack with a failure", x.giveBack(0), 2);
        CHECK.is("LIFE behind a failure", x.ofMachine(0, 1), 0);
        CHECK.is("WORKS done", x.ofMachine(0, 2), 1);
        CHECK.is("FAILED", x.ofMachine(0, 3), 1);
        CHECK.is("the first WORK is done", x.ofSection(0, 0), 0);
        CHECK.is("the second one is not", x.ofSection(1, 0), 10);
        CHECK.is("COST", x.many(9), 8 * 20 + 10 * 30 + 2 * 100 + 300);
        CHECK.is("OVERRUN of all", x.many(16), 2);
        CHECK.is("a LIFE as much as the HOURS", x.giveBack(1), 0);
        CHECK.is("its LIFE", x.ofMachine(1, 1), 0);
        CHECK.is("its failures", x.ofMachine(1, 3), 0);
        CHECK.is("HOURS by plan", x.ofPossession(0, 7), 8);
        x.book(0, 0, 0, 10, 4);
        x.work(2, 0, 1);
        x.pass(16, 27, 5);
        takeIt(x, 2);
        CHECK.is("a failure within the HOURS", x.giveBack(2), 0);
        CHECK.is("its failures", x.ofMachine(1, 3), 1);
        CHECK.is("OVERRUN of all", x.many(16), 2);
    }

    private static void treatments() {
        CHECK.promise(14, "TAMPING, GRINDING, RENEWING");
        TrackNights x = new TrackNights();
        x.machine(0, 40);
        x.machine(1, 40);
        x.machine(2, 40);
        x.curve(0, true);
        x.book(0, 0, 0, 10, 2);
        x.book(0, 0, 0, 11, 3);
        x.book(0, 0, 0, 12, 5);
        x.work(0, 0, 0);
        x.work(1, 0, 1);
        x.work(2, 0, 2);
        x.pass(36, 27, 10);
        takeIt(x, 0);
        x.giveBack(0);
        CHECK.is("SETTLE of 30, TAMPED", x.ofSection(0, 2), 7);
        CHECK.is("TAMPS", x.ofSection(0, 3), 1);
        CHECK.is("WEAR, TAMPED", x.ofSection(0, 0), 90);
        x.pass(36, 27, 1);
        CHECK.is("CRACK, not GROUND", x.ofSection(0, 1), 6);
        CHECK.is("SETTLE with a TAMP", x.ofSection(0, 2), 11);
        takeIt(x, 1);
        x.giveBack(1);
        CHECK.is("CRACK, GROUND", x.ofSection(0, 1), 0);
        CHECK.is("WEAR, GROUND", x.ofSection(0, 0), 100);
        CHECK.is("SETTLE, GROUND", x.ofSection(0, 2), 11);
        x.pass(0, 15, 1);
        takeIt(x, 2);
        x.giveBack(2);
        CHECK.is("WEAR, RENEWED", x.ofSection(0, 0), 0);
        CHECK.is("CRACK, RENEWED", x.ofSection(0, 1), 0);
        CHECK.is("SETTLE, RENEWED", x.ofSection(0, 2), 0);
        CHECK.is("TAMPS, RENEWED", x.ofSection(0, 3), 0);
        CHECK.is("FREE, RENEWED", x.ofSection(0, 4), 15);
        CHECK.is("a CURVE, RENEWED", x.ofSection(0, 5), 1);
        CHECK.is("SIGN, RENEWED", x.ofSection(0, 6), 160);
        CHECK.is("COST", x.many(9), 10 * 20 + 10 * 30 + 300);

        TrackNights y = new TrackNights();
        y.machine(1, 40);
        y.book(0, 0, 0, 5, 2);
        y.work(0, 0, 0);
        y.pass(16, 27, 5);
        takeIt(y, 0);
        y.giveBack(0);
        CHECK.is("WEAR, GROUND", y.ofSection(0, 0), 12);
        CHECK.is("CRACK, GROUND", y.ofSection(0, 1), 0);
    }

    private static void freeHasEdges() {
        CHECK.promise(14, "FREE is the HEAT (10 at least, 40 at most)");
        int[][] due = {{-20, 10}, {9, 10}, {10, 10}, {11, 11}, {39, 39}, {40, 40}, {41, 40}, {60, 40}};
        for (int[] row : due) {
            TrackNights x = new TrackNights();
            x.machine(2, 40);
            x.book(1, 9, 9, 5, 4);
            x.work(0, 19, 0);
            x.pass(0, row[0], 5);
            takeIt(x, 0);
            x.giveBack(0);
            CHECK.is("FREE by a HEAT of " + row[0], x.ofSection(19, 4), row[1]);
            CHECK.is("FREE of another", x.ofSection(18, 4), 27);
        }
    }

    private static void lateNights() {
        CHECK.promise(14, "The OVERRUN: 0 at least, and then 2 more, if section 1 gave it BACK");
        TrackNights x = new TrackNights();
        x.machine(1, 1);
        x.book(0, 0, 9, 5, 3);
        x.work(0, 0, 0);
        x.pass(0, 27, 5);
        takeIt(x, 0);
        CHECK.is("wouldOverrun by the call", x.wouldOverrun(0), 1);
        x.pass(0, 27, 1);
        CHECK.is("OVERRUN and 2 more", x.ofPossession(0, 9), 3);
        CHECK.is("OVERRUN of all", x.many(16), 3);
        CHECK.is("COST", x.many(9), 3 * 20 + 4 * 30 + 3 * 100);
        x.book(0, 0, 9, 11, 5);
        x.pass(0, 27, 5);
        takeIt(x, 1);
        x.pass(0, 27, 1);
        CHECK.is("OVERRUN is 0 at least, then 2 more", x.ofPossession(1, 9), 2);
        CHECK.is("OVERRUN of all", x.many(16), 5);
        CHECK.is("COST", x.many(9), 480 + 5 * 20 + 200);
    }

    // Promise 15
    private static void walks() {
        CHECK.promise(15, "if section is not 0 to 19");
        TrackNights x = new TrackNights();
        CHECK.index(x, "walk(-1, 100)", () -> x.walk(-1, 100));
        CHECK.index(x, "walk(20, 49)", () -> x.walk(20, 49));
        CHECK.promise(15, "if sight is not 50 to 2000");
        CHECK.argument(x, "walk(0, 49)", () -> x.walk(0, 49));
        CHECK.argument(x, "walk(0, 2001)", () -> x.walk(0, 2001));
        CHECK.is("walk(0, 2000)", x.walk(0, 2000), true);
        CHECK.is("walk(0, 50)", x.walk(0, 50), false);
        CHECK.promise(15, "has to be 25 seconds or more");
        CHECK.is("24 seconds", x.walk(0, 1111), false);
        CHECK.is("25 seconds", x.walk(0, 1112), true);
        CHECK.is("UNSAFE ones", x.many(12), 2);
        CHECK.promise(15, "the greater one of the SIGNS");
        x.sign(0, 72);
        CHECK.is("the other track's SIGN is greater", x.walk(0, 1111), false);
        x.sign(10, 60);
        CHECK.is("499 metres", x.walk(0, 499), false);
        CHECK.is("500 metres", x.walk(0, 500), true);
        CHECK.is("500 metres on the other track", x.walk(10, 500), true);
        CHECK.is("499 metres on the other track", x.walk(10, 499), false);
        CHECK.promise(15, "also if both SIGNS are 0, it is SAFE");
        x.sign(0, 0);
        x.sign(10, 0);
        CHECK.is("both SIGNS 0", x.walk(0, 50), true);
        x.sign(10, 7);
        CHECK.is("one SIGN 7", x.walk(0, 50), true);
        x.sign(10, 8);
        CHECK.is("one SIGN 8", x.walk(0, 50), false);
        CHECK.is("UNSAFE ones", x.many(12), 6);
        CHECK.promise(15, "SAFE by the POSSESSION, if the SECTION is in one that is TAKEN");
        x.book(1, 0, 3, 5, 2);
        x.pass(0, 27, 5);
        CHECK.is("BOOKED does not help", x.walk(10, 50), false);
        x.mark(0, 0);
        x.mark(0, 1);
        CHECK.is("MARKED does not help", x.walk(10, 50), false);
        x.take(0);
        CHECK.is("SAFE by the POSSESSION", x.walk(10, 50), true);
        CHECK.is("SAFE by the POSSESSION, last one", x.walk(13, 50), true);
        CHECK.is("behind it", x.walk(14, 50), false);
        CHECK.is("SIGN 0 beside a POSSESSION", x.walk(0, 50), true);
        CHECK.is("SIGN 160 beside a POSSESSION", x.walk(1, 1111), false);
        x.sign(1, 7);
        CHECK.is("SIGN 7 beside a POSSESSION", x.walk(1, 50), true);
        x.giveBack(0);
        CHECK.is("GIVEN BACK", x.walk(10, 50), false);
        CHECK.is("SIGN 7 beside 160", x.walk(1, 50), false);
        CHECK.is("UNSAFE ones", x.many(12), 12);
    }

    // Promise 20
    private static void ofPossessions() {
        CHECK.promise(20, "if there is no such POSSESSION");
        TrackNights x = new TrackNights();
        CHECK.index(x, "ofPossession(0, 0) without one", () -> x.ofPossession(0, 0));
        x.machine(1, 9);
        x.book(1, 2, 6, 37, 7);
        x.work(0, 14, 0);
        CHECK.promise(20, "0 its state, 1 TRACK, 2 first KILOMETRE, 3 last one, 4 DAY, 5 HOURS, 6 WORKS, 7 HOURS by plan, 8 MARKED, 9 OVERRUN");
        int[] due = {0, 1, 2, 6, 37, 7, 1, 2, 0, 0};
        for (int what = 0; what < 10; what++) {
            CHECK.is("ofPossession(0, " + what + ")", x.ofPossession(0, what), due[what]);
        }
        CHECK.promise(20, "if there is no such POSSESSION");
        CHECK.index(x, "ofPossession(-1, 0)", () -> x.ofPossession(-1, 0));
        CHECK.index(x, "ofPossession(1, 10)", () -> x.ofPossession(1, 10));
        CHECK.promise(20, "if what is not 0 to 9");
        CHECK.argument(x, "ofPossession(0, -1)", () -> x.ofPossession(0, -1));
        CHECK.argument(x, "ofPossession(0, 10)", () -> x.ofPossession(0, 10));
        CHECK.promise(20, "0 its state, 6 WORKS");
        x.cancel(0);
        CHECK.is("CANCELLED", x.ofPossession(0, 0), 4);
        CHECK.is("its WORKS", x.ofPossession(0, 6), 1);
    }
}
