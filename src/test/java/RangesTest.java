/**
 * Promises 2 to 27: the numbers that a call takes. The least and the most of each are taken; one less, one more
 * and the farthest numbers are refused with the exception of their sentence.
 */
public final class RangesTest {
    private static final Checks CHECK = new Checks();
    private static final Class<?> INDEX = IndexOutOfBoundsException.class;
    private static final Class<?> ARGUMENT = IllegalArgumentException.class;
    private static final Class<?> STATE = IllegalStateException.class;

    /** How far the nights of the road go on which a call is tried: as far as it asks for. */
    private static final int BOOKED = 0;
    private static final int MARKED = 1;
    private static final int TAKEN = 2;

    private interface Call {
        void on(TrackNights x, int n);
    }

    public static void main(String[] args) {
        roadCalls();
        measureCalls();
        machineCalls();
        bookCalls();
        workCalls();
        nightCalls();
        walkCalls();
        numberedQuestions();
        whatIsAsked();
        whatWouldBe();
        stretches();
        nothingThereYet();
        lastDays();
        CHECK.finish();
    }

    /** DAY 5, with 2 MACHINES, 2 MEASURES, and 3 POSSESSIONS of this DAY: sections 0 to 4, 5 to 9, 10 to 19. */
    private static TrackNights road(int nights) {
        TrackNights x = new TrackNights();
        x.machine(0, 9);
        x.machine(1, 9);
        x.book(0, 0, 4, 5, 8);
        x.book(0, 5, 9, 5, 8);
        x.book(1, 0, 9, 5, 8);
        x.pass(8, 27, 5);
        x.measure(0, 0, 9, 1);
        x.measure(1, 0, 9, -1);
        for (int p = 0; p < 3 && nights >= MARKED; p++) {
            x.mark(p, 0);
            x.mark(p, 1);
        }
        for (int p = 0; p < 3 && nights == TAKEN; p++) {
            x.take(p);
        }
        return x;
    }

    private static void range(int least, int most, Class<?> due, Call call) {
        range(BOOKED, least, most, due, call);
    }

    private static void range(int nights, int least, int most, Class<?> due, Call call) {
        for (int n : new int[] {least, most}) {
            TrackNights x = road(nights);
            CHECK.answers("with " + n + " it", () -> call.on(x, n));
        }
        for (int n : new int[] {least - 1, most + 1, Integer.MIN_VALUE, Integer.MAX_VALUE}) {
            TrackNights x = road(nights);
            CHECK.refused(x, "with " + n + " it", due, () -> call.on(x, n));
        }
    }

    private static void roadCalls() {
        CHECK.promise(2, "if section is not 0 to 19");
        range(0, 19, INDEX, (x, n) -> x.curve(n, true));
        CHECK.promise(3, "if section is not 0 to 19");
        range(0, 19, INDEX, (x, n) -> x.sign(n, 80));
        CHECK.promise(3, "if speed is not 0 to 160");
        range(0, 160, ARGUMENT, (x, n) -> x.sign(7, n));
        CHECK.promise(4, "if trains is not 0 to 40");
        range(0, 40, ARGUMENT, (x, n) -> x.pass(n, 27, 1));
        CHECK.promise(4, "heat not -20 to 60");
        range(-20, 60, ARGUMENT, (x, n) -> x.pass(9, n, 1));
        CHECK.promise(4, "or days not 1 to 60");
        range(1, 60, ARGUMENT, (x, n) -> x.pass(9, 27, n));
    }

    private static void measureCalls() {
        CHECK.promise(5, "if track is not 0 or 1");
        range(0, 1, INDEX, (x, n) -> x.measure(n, 0, 9, 0));
        CHECK.promise(5, "or from or to not 0 to 9: from");
        range(0, 9, INDEX, (x, n) -> x.measure(0, n, 9, 0));
        CHECK.promise(5, "or from or to not 0 to 9: to");
        range(0, 9, INDEX, (x, n) -> x.measure(0, 0, n, 0));
        CHECK.promise(5, "or drift not -2 to 2");
        range(-2, 2, ARGUMENT, (x, n) -> x.measure(0, 0, 9, n));
        CHECK.promise(6, "if there is no such MEASURE");
        range(0, 1, INDEX, (x, n) -> x.align(n));
    }

    private static void machineCalls() {
        CHECK.promise(7, "if kind is not 0 to 2");
        range(0, 2, ARGUMENT, (x, n) -> x.machine(n, 5));
        CHECK.promise(7, "or life not 0 to 99");
        range(0, 99, ARGUMENT, (x, n) -> x.machine(1, n));
        CHECK.promise(8, "if there is no such MACHINE");
        range(0, 1, INDEX, (x, n) -> x.service(n));
    }

    private static void bookCalls() {
        CHECK.promise(9, "if track is not 0 or 1");
        range(0, 1, INDEX, (x, n) -> x.book(n, 0, 9, 20, 4));
        CHECK.promise(9, "or from or to not 0 to 9: from");
        range(0, 9, INDEX, (x, n) -> x.book(0, n, 9, 20, 4));
        CHECK.promise(9, "or from or to not 0 to 9: to");
        range(0, 9, INDEX, (x, n) -> x.book(0, 0, n, 20, 4));
        CHECK.promise(9, "day less than 5 later than DAY, or above 2000");
        range(10, 2000, ARGUMENT, (x, n) -> x.book(0, 0, 9, n, 4));
        CHECK.promise(9, "or hours not 2 to 8");
        range(2, 8, ARGUMENT, (x, n) -> x.book(0, 0, 9, 20, n));
    }

    private static void workCalls() {
        CHECK.promise(10, "if there is no such POSSESSION");
        range(0, 2, INDEX, (x, n) -> x.work(n, n == 1 ? 5 : n == 2 ? 10 : 0, 0));
        CHECK.promise(10, "or MACHINE");
        range(0, 1, INDEX, (x, n) -> x.work(0, 0, n));
        CHECK.promise(10, "or section is not 0 to 19");
        range(0, 19, INDEX, (x, n) -> x.work(n < 10 ? 0 : 2, n, 0));
        CHECK.promise(10, "if the SECTION is not in the POSSESSION");
        inThePossession(0, 0, 4);
        inThePossession(1, 5, 9);
        inThePossession(2, 10, 19);
    }

    private static void inThePossession(int possession, int first, int last) {
        for (int n = 0; n < 20; n++) {
            int section = n;
            TrackNights x = road(BOOKED);
            if (n >= first && n <= last) {
                CHECK.answers("section " + n, () -> x.work(possession, section, 0));
            } else {
                CHECK.argument(x, "section " + n, () -> x.work(possession, section, 0));
            }
        }
    }

    private static void nightCalls() {
        CHECK.promise(11, "if there is no such POSSESSION");
        range(0, 2, INDEX, (x, n) -> x.cancel(n));
        CHECK.promise(12, "if there is no such POSSESSION");
        range(0, 2, INDEX, (x, n) -> x.mark(n, 0));
        CHECK.promise(12, "or end is not 0 or 1");
        range(0, 1, INDEX, (x, n) -> x.mark(0, n));
        CHECK.promise(13, "if there is no such POSSESSION");
        range(MARKED, 0, 2, INDEX, (x, n) -> x.take(n));
        CHECK.promise(14, "if there is no such POSSESSION");
        range(TAKEN, 0, 2, INDEX, (x, n) -> x.giveBack(n));
    }

    private static void walkCalls() {
        CHECK.promise(15, "if section is not 0 to 19");
        range(0, 19, INDEX, (x, n) -> x.walk(n, 500));
        CHECK.promise(15, "if sight is not 50 to 2000");
        range(50, 2000, ARGUMENT, (x, n) -> x.walk(0, n));
        range(TAKEN, 50, 2000, ARGUMENT, (x, n) -> x.walk(0, n));
    }

    private static void numberedQuestions() {
        CHECK.promise(16, "if section is not 0 to 19");
        range(0, 19, INDEX, (x, n) -> x.ofSection(n, 0));
        CHECK.promise(17, "if section is not 0 to 19");
        range(0, 19, INDEX, (x, n) -> x.known(n, 0));
        CHECK.promise(18, "if section is not 0 to 19");
        range(0, 19, INDEX, (x, n) -> x.why(n, false));
        range(0, 19, INDEX, (x, n) -> x.why(n, true));
        CHECK.promise(19, "if there is no such MACHINE");
        range(0, 1, INDEX, (x, n) -> x.ofMachine(n, 0));
        CHECK.promise(20, "if there is no such POSSESSION");
        range(0, 2, INDEX, (x, n) -> x.ofPossession(n, 0));
        CHECK.promise(22, "if track is not 0 or 1");
        range(0, 1, INDEX, (x, n) -> x.meanWear(n));
        CHECK.promise(23, "if section is not 0 to 19");
        range(0, 19, INDEX, (x, n) -> x.couldSee(n));
    }

    private static void whatIsAsked() {
        CHECK.promise(16, "if what is not 0 to 7");
        range(0, 7, ARGUMENT, (x, n) -> x.ofSection(3, n));
        CHECK.promise(17, "if what is not 0 to 4");
        range(0, 4, ARGUMENT, (x, n) -> x.known(3, n));
        CHECK.promise(19, "if what is not 0 to 3");
        range(0, 3, ARGUMENT, (x, n) -> x.ofMachine(1, n));
        CHECK.promise(20, "if what is not 0 to 9");
        range(0, 9, ARGUMENT, (x, n) -> x.ofPossession(2, n));
        CHECK.promise(21, "if what is not 0 to 16");
        range(0, 16, ARGUMENT, (x, n) -> x.many(n));
    }

    private static void whatWouldBe() {
        CHECK.promise(24, "if section is not 0 to 19");
        range(0, 19, INDEX, (x, n) -> x.firstRisk(n, 9));
        CHECK.promise(24, "if trains is not 0 to 40");
        range(0, 40, ARGUMENT, (x, n) -> x.firstRisk(3, n));
        CHECK.promise(25, "if section is not 0 to 19");
        range(0, 19, INDEX, (x, n) -> x.bestWork(n, 9, 9));
        CHECK.promise(25, "if trains is not 0 to 40");
        range(0, 40, ARGUMENT, (x, n) -> x.bestWork(3, n, 9));
        CHECK.promise(25, "or days not 1 to 200");
        range(1, 200, ARGUMENT, (x, n) -> x.bestWork(3, 9, n));
        CHECK.promise(26, "if track is not 0 or 1");
        range(0, 1, INDEX, (x, n) -> x.freeDay(n, 0, 9));
        CHECK.promise(26, "or from or to not 0 to 9: from");
        range(0, 9, INDEX, (x, n) -> x.freeDay(0, n, 9));
        CHECK.promise(26, "or from or to not 0 to 9: to");
        range(0, 9, INDEX, (x, n) -> x.freeDay(0, 0, n));
        CHECK.promise(27, "if there is no such POSSESSION");
        range(0, 2, INDEX, (x, n) -> x.wouldOverrun(n));
        range(TAKEN, 0, 2, INDEX, (x, n) -> x.wouldOverrun(n));
    }

    /** One KILOMETRE is a stretch; a last one below the first is none. */
    private static void stretches() {
        for (int k = 0; k <= 9; k++) {
            int one = k;
            TrackNights x = road(BOOKED);
            CHECK.promise(5, "if to is below from");
            CHECK.answers("to as from", () -> x.measure(1, one, one, 0));
            CHECK.promise(9, "if to is below from");
            CHECK.answers("to as from", () -> x.book(1, one, one, 20, 4));
            CHECK.promise(26, "if to is below from");
            CHECK.answers("to as from", () -> x.freeDay(1, one, one));
        }
        for (int k = 1; k <= 9; k++) {
            int from = k;
            TrackNights x = road(BOOKED);
            CHECK.promise(5, "if to is below from");
            CHECK.argument(x, "to one below from", () -> x.measure(1, from, from - 1, 0));
            CHECK.argument(x, "to 0", () -> x.measure(1, from, 0, 0));
            CHECK.promise(9, "if to is below from");
            CHECK.argument(x, "to one below from", () -> x.book(1, from, from - 1, 20, 4));
            CHECK.argument(x, "to 0", () -> x.book(1, from, 0, 20, 4));
            CHECK.promise(26, "if to is below from");
            CHECK.argument(x, "to one below from", () -> x.freeDay(1, from, from - 1));
            CHECK.argument(x, "to 0", () -> x.freeDay(1, from, 0));
        }
    }

    /** A new road has no MEASURE, MACHINE or POSSESSION: not even the number 0. */
    private static void nothingThereYet() {
        TrackNights x = new TrackNights();
        CHECK.promise(6, "if there is no such MEASURE");
        CHECK.index(x, "align(0)", () -> x.align(0));
        CHECK.promise(8, "if there is no such MACHINE");
        CHECK.index(x, "service(0)", () -> x.service(0));
        CHECK.promise(10, "if there is no such POSSESSION, or MACHINE");
        CHECK.index(x, "work(0, 0, 0)", () -> x.work(0, 0, 0));
        CHECK.promise(11, "if there is no such POSSESSION");
        CHECK.index(x, "cancel(0)", () -> x.cancel(0));
        CHECK.promise(12, "if there is no such POSSESSION");
        CHECK.index(x, "mark(0, 0)", () -> x.mark(0, 0));
        CHECK.promise(13, "if there is no such POSSESSION");
        CHECK.index(x, "take(0)", () -> x.take(0));
        CHECK.promise(14, "if there is no such POSSESSION");
        CHECK.index(x, "giveBack(0)", () -> x.giveBack(0));
        CHECK.promise(19, "if there is no such MACHINE");
        CHECK.index(x, "ofMachine(0, 0)", () -> x.ofMachine(0, 0));
        CHECK.promise(20, "if there is no such POSSESSION");
        CHECK.index(x, "ofPossession(0, 0)", () -> x.ofPossession(0, 0));
        CHECK.promise(27, "if there is no such POSSESSION");
        CHECK.index(x, "wouldOverrun(0)", () -> x.wouldOverrun(0));

        CHECK.promise(10, "if there is no such POSSESSION, or MACHINE");
        x.machine(0, 9);
        CHECK.index(x, "work(0, 0, 0) with a MACHINE alone", () -> x.work(0, 0, 0));
        TrackNights y = new TrackNights();
        y.book(0, 0, 0, 5, 8);
        CHECK.index(y, "work(0, 0, 0) with a POSSESSION alone", () -> y.work(0, 0, 0));
    }

    private static TrackNights onDay(int day) {
        TrackNights x = new TrackNights();
        while (x.many(0) < day) {
            x.pass(0, 27, Math.min(60, day - x.many(0)));
        }
        return x;
    }

    private static void lastDays() {
        CHECK.promise(4, "if DAY would be above 2000");
        for (int days = 1; days <= 60; days++) {
            int n = days;
            TrackNights x = onDay(2000 - n);
            CHECK.answers("pass to DAY 2000", () -> x.pass(0, 27, n));
            CHECK.is("DAY", x.many(0), 2000);
            TrackNights y = onDay(2001 - n);
            CHECK.refused(y, "pass to DAY 2001", STATE, () -> y.pass(0, 27, n));
            CHECK.is("DAY", y.many(0), 2001 - n);
        }
        CHECK.promise(9, "day less than 5 later than DAY, or above 2000");
        TrackNights x = onDay(1995);
        CHECK.answers("on DAY 1995, for DAY 2000", () -> x.book(0, 0, 9, 2000, 4));
        CHECK.argument(x, "on DAY 1995, for DAY 1999", () -> x.book(1, 0, 9, 1999, 4));
        CHECK.argument(x, "on DAY 1995, for DAY 2001", () -> x.book(1, 0, 9, 2001, 4));
        TrackNights y = onDay(1996);
        CHECK.argument(y, "on DAY 1996, for DAY 2000", () -> y.book(0, 0, 9, 2000, 4));
        CHECK.argument(y, "on DAY 1996, for DAY 2001", () -> y.book(0, 0, 9, 2001, 4));
    }
}
