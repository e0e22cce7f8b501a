import java.util.ArrayList;
import java.util.List;

/**
 * Each promise that throws: of several exceptions that apply the one that is named first is thrown, and a call that
 * throws changes nothing, not even what shows much later.
 */
public final class RefusedTest {
    private static final Checks CHECK = new Checks();

    private interface Call {
        long on(TrackNights x);
    }

    /** A call that may be refused, and the promise that refuses it. */
    private static final class Try {
        private final int promise;
        private final Call call;

        Try(int promise, Call call) {
            this.promise = promise;
            this.call = call;
        }
    }

    public static void main(String[] args) {
        theFirstThatIsNamed();
        theFirstOfNights();
        theFirstOfQuestions();
        nothingIsChanged();
        CHECK.finish();
    }

    /** Nothing more can be made, and DAY is 2000. */
    private static TrackNights full() {
        TrackNights x = new TrackNights();
        for (int i = 0; i < 12; i++) {
            x.measure(0, 0, 9, 0);
        }
        for (int i = 0; i < 4; i++) {
            x.machine(0, 9);
        }
        for (int i = 0; i < 16; i++) {
            x.book(0, 0, 9, 1985 + i, 4);
        }
        return x;
    }

    private static TrackNights onTheLastDay() {
        TrackNights x = new TrackNights();
        for (int i = 0; i < 40; i++) {
            x.pass(0, 27, 50);
        }
        return x;
    }

    private static void theFirstThatIsNamed() {
        TrackNights x = full();
        TrackNights late = onTheLastDay();
        String first = "IndexOutOfBoundsException, ahead of the others that apply";
        CHECK.promise(3, first);
        CHECK.index(x, "sign(-1, -1)", () -> x.sign(-1, -1));
        CHECK.index(x, "sign(20, 161)", () -> x.sign(20, 161));
        CHECK.promise(5, first);
        CHECK.index(x, "track 2, to below from", () -> x.measure(2, 4, 3, 0));
        CHECK.index(x, "to -1, below from", () -> x.measure(0, 4, -1, 0));
        CHECK.index(x, "from 10, to below from", () -> x.measure(0, 10, 9, 0));
        CHECK.index(x, "track -1, DRIFT 3", () -> x.measure(-1, 0, 9, 3));
        CHECK.index(x, "to 10, DRIFT -3", () -> x.measure(0, 0, 10, -3));
        CHECK.index(x, "track 2, a 13th", () -> x.measure(2, 0, 9, 0));
        CHECK.promise(9, first);
        CHECK.index(x, "track 2, to below from", () -> x.book(2, 4, 3, 20, 4));
        CHECK.index(x, "to -1, below from", () -> x.book(0, 4, -1, 20, 4));
        CHECK.index(x, "from 10, DAY 4", () -> x.book(0, 10, 10, 4, 4));
        CHECK.index(x, "to 10, HOURS 9", () -> x.book(0, 0, 10, 20, 9));
        CHECK.index(x, "track -1, a 17th, in common", () -> x.book(-1, 0, 9, 1990, 4));
        String second = "IllegalArgumentException, ahead of IllegalStateException";
        CHECK.promise(4, second);
        CHECK.argument(late, "trains 41, DAY 2001", () -> late.pass(41, 27, 1));
        CHECK.argument(late, "heat 61, DAY 2001", () -> late.pass(0, 61, 1));
        CHECK.argument(late, "days 61, DAY 2061", () -> late.pass(0, 27, 61));
        CHECK.argument(late, "days -1", () -> late.pass(0, 27, -1));
        CHECK.promise(5, second);
        CHECK.argument(x, "to below from, a 13th", () -> x.measure(0, 4, 3, 0));
        CHECK.argument(x, "DRIFT 3, a 13th", () -> x.measure(0, 0, 9, 3));
        CHECK.promise(7, second);
        CHECK.argument(x, "kind 3, a 5th", () -> x.machine(3, 9));
        CHECK.argument(x, "life 100, a 5th", () -> x.machine(0, 100));
        CHECK.promise(9, second);
        CHECK.argument(x, "to below from, a 17th", () -> x.book(0, 4, 3, 1990, 4));
        CHECK.argument(x, "DAY 4, a 17th", () -> x.book(0, 0, 9, 4, 4));
        CHECK.argument(x, "DAY 2001, a 17th", () -> x.book(0, 0, 9, 2001, 4));
        CHECK.argument(x, "HOURS 1, a 17th, in common", () -> x.book(0, 0, 9, 1990, 1));
    }

    private static void theFirstOfNights() {
        TrackNights x = full();
        x.cancel(0);
        String first = "IndexOutOfBoundsException, ahead of the others that apply";
        CHECK.promise(10, first);
        CHECK.index(x, "no such POSSESSION, a SECTION that is in none", () -> x.work(16, 15, 0));
        CHECK.index(x, "no such MACHINE, a SECTION outside", () -> x.work(1, 10, 4));
        CHECK.index(x, "no such MACHINE, a CANCELLED POSSESSION", () -> x.work(0, 0, 4));
        CHECK.index(x, "section 20, a CANCELLED POSSESSION", () -> x.work(0, 20, 0));
        CHECK.index(x, "section -1, a CANCELLED POSSESSION", () -> x.work(0, -1, 0));
        CHECK.promise(10, "IllegalArgumentException, ahead of IllegalStateException");
        CHECK.argument(x, "a SECTION outside, a CANCELLED POSSESSION", () -> x.work(0, 10, 0));
        for (int i = 0; i < 4; i++) {
            x.work(1, i, 0);
        }
        CHECK.argument(x, "a SECTION outside, no HOURS left", () -> x.work(1, 10, 0));
        CHECK.promise(12, first);
        CHECK.index(x, "end 2, not its DAY", () -> x.mark(1, 2));
        CHECK.index(x, "end -1, a CANCELLED POSSESSION", () -> x.mark(0, -1));
        CHECK.index(x, "no such POSSESSION, end 2", () -> x.mark(16, 2));
        CHECK.promise(15, first);
        CHECK.index(x, "section 20, sight 49", () -> x.walk(20, 49));
        CHECK.index(x, "section -1, sight 2001", () -> x.walk(-1, 2001));
    }

    private static void theFirstOfQuestions() {
        TrackNights x = full();
        String first = "IndexOutOfBoundsException, ahead of IllegalArgumentException";
        CHECK.promise(16, first);
        CHECK.index(x, "section 20, what 8", () -> x.ofSection(20, 8));
        CHECK.index(x, "section -1, what -1", () -> x.ofSection(-1, -1));
        CHECK.promise(17, first);
        CHECK.index(x, "section 20, what 5", () -> x.known(20, 5));
        CHECK.index(x, "section -1, what -1", () -> x.known(-1, -1));
        CHECK.promise(19, first);
        CHECK.index(x, "machine 4, what 4", () -> x.ofMachine(4, 4));
        CHECK.index(x, "machine -1, what -1", () -> x.ofMachine(-1, -1));
        CHECK.promise(20, first);
        CHECK.index(x, "possession 16, what 10", () -> x.ofPossession(16, 10));
        CHECK.index(x, "possession -1, what -1", () -> x.ofPossession(-1, -1));
        CHECK.promise(24, first);
        CHECK.index(x, "section 20, trains 41", () -> x.firstRisk(20, 41));
        CHECK.index(x, "section -1, trains -1", () -> x.firstRisk(-1, -1));
        CHECK.promise(25, first);
        CHECK.index(x, "section 20, trains 41", () -> x.bestWork(20, 41, 30));
        CHECK.index(x, "section -1, days 0", () -> x.bestWork(-1, 20, 0));
        CHECK.promise(26, first);
        CHECK.index(x, "track 2, to below from", () -> x.freeDay(2, 4, 3));
        CHECK.index(x, "to -1, below from", () -> x.freeDay(0, 4, -1));
        CHECK.index(x, "from 10, to below from", () -> x.freeDay(0, 10, 9));
    }

    /** A road's story, in which what one call hides (which end, which WORK, what was WROTE) shows in a later one. */
    private static List<Call> story() {
        List<Call> calls = new ArrayList<>();
        calls.add(x -> x.machine(0, 3));
        calls.add(x -> x.machine(2, 9));
        calls.add(x -> x.machine(1, 1));
        calls.add(x -> x.curve(4, true) ? 1 : 0);
        calls.add(x -> x.book(0, 2, 6, 5, 6));
        calls.add(x -> x.book(1, 2, 6, 5, 4));
        calls.add(x -> x.work(0, 4, 0));
        calls.add(x -> x.work(0, 3, 1));
        calls.add(x -> x.work(1, 12, 2));
        calls.add(x -> x.book(1, 7, 9, 6, 4));
        calls.add(x -> x.pass(40, 33, 5));
        calls.add(x -> x.measure(0, 0, 9, 2));
        calls.add(x -> x.mark(0, 1));
        calls.add(x -> x.mark(1, 0));
        calls.add(x -> x.mark(0, 0));
        calls.add(x -> x.take(0));
        calls.add(x -> x.walk(14, 900) ? 1 : 0);
        calls.add(x -> x.sign(5, 60));
        calls.add(x -> x.mark(1, 1));
        calls.add(x -> x.giveBack(0));
        calls.add(x -> x.work(2, 17, 0));
        calls.add(x -> x.take(1));
        calls.add(x -> x.pass(30, 20, 1));
        calls.add(x -> x.measure(1, 3, 8, -1));
        calls.add(x -> x.known(2, 0));
        calls.add(x -> x.align(0));
        calls.add(x -> x.known(5, 2));
        calls.add(x -> x.mark(2, 0));
        calls.add(x -> x.wouldOverrun(2));
        calls.add(x -> x.mark(2, 1));
        calls.add(x -> x.take(2));
        calls.add(x -> x.giveBack(2));
        calls.add(x -> x.service(0));
        calls.add(x -> x.align(1));
        calls.add(x -> x.book(0, 0, 9, 11, 8));
        calls.add(x -> x.cancel(3));
        calls.add(x -> x.digest());
        return calls;
    }

    /** Calls of each promise that changes something: some are refused always, others at some time of the story. */
    private static List<Try> tries() {
        List<Try> tries = new ArrayList<>();
        for (int section : new int[] {-1, 20}) {
            tries.add(new Try(2, x -> x.curve(section, true) ? 1 : 0));
            tries.add(new Try(3, x -> x.sign(section, 0)));
            tries.add(new Try(15, x -> x.walk(section, 50) ? 1 : 0));
        }
        tries.add(new Try(3, x -> x.sign(4, 161)));
        tries.add(new Try(4, x -> x.pass(41, 60, 60)));
        tries.add(new Try(4, x -> x.pass(40, 61, 60)));
        tries.add(new Try(4, x -> x.pass(40, 60, 61)));
        tries.add(new Try(5, x -> x.measure(0, 0, 9, 3)));
        tries.add(new Try(5, x -> x.measure(1, 0, 10, 2)));
        tries.add(new Try(5, x -> x.measure(0, 9, 0, 1)));
        tries.add(new Try(7, x -> x.machine(3, 9)));
        tries.add(new Try(7, x -> x.machine(1, 100)));
        tries.add(new Try(9, x -> x.book(0, 0, 10, 20, 4)));
        tries.add(new Try(9, x -> x.book(0, 0, 9, x.many(0) + 4, 4)));
        tries.add(new Try(9, x -> x.book(0, 2, 2, 5, 4)));
        tries.add(new Try(9, x -> x.book(1, 7, 7, 6, 9)));
        tries.add(new Try(15, x -> x.walk(4, 49) ? 1 : 0));
        for (int i = -1; i <= 4; i++) {
            triesWith(tries, i);
        }
        return tries;
    }

    private static void triesWith(List<Try> tries, int number) {
        tries.add(new Try(6, x -> x.align(number)));
        tries.add(new Try(8, x -> x.service(number)));
        tries.add(new Try(11, x -> x.cancel(number)));
        for (int end = -1; end <= 2; end++) {
            int e = end;
            tries.add(new Try(12, x -> x.mark(number, e)));
        }
        tries.add(new Try(13, x -> x.take(number)));
        tries.add(new Try(14, x -> x.giveBack(number)));
        tries.add(new Try(27, x -> x.wouldOverrun(number)));
        for (int section : new int[] {-1, 4, 12, 17, 20}) {
            for (int machine = 0; machine <= 2; machine++) {
                int m = machine;
                tries.add(new Try(10, x -> x.work(number, section, m)));
            }
        }
    }

    private static long told(TrackNights x, Call call) {
        try {
            return call.on(x);
        } catch (RuntimeException e) {
            return Long.MIN_VALUE;
        }
    }

    /** The story with each try put in at each place: if the try throws there, all that comes behind stays as it was. */
    private static void nothingIsChanged() {
        List<Call> story = story();
        List<Try> tries = tries();
        long[] due = new long[story.size()];
        TrackNights plain = new TrackNights();
        for (int i = 0; i < due.length; i++) {
            due[i] = told(plain, story.get(i));
        }
        int[] refused = new int[29];
        for (int place = 0; place < due.length; place++) {
            for (int t = 0; t < tries.size(); t++) {
                int promise = tries.get(t).promise;
                CHECK.promise(promise, "A method that throws an exception changes nothing");
                refused[promise] += refusedWithin(story, due, place, tries.get(t).call, "try " + t + " ahead of call " + place);
            }
        }
        for (int promise : new int[] {2, 3, 4, 5, 6, 7, 8, 9, 10, 11, 12, 13, 14, 15, 27}) {
            CHECK.promise(promise, "A method that throws an exception changes nothing");
            CHECK.is("a try is refused at each place at least", refused[promise] >= due.length, true);
        }
    }

    /** 1 if the try is refused there, otherwise 0. */
    private static int refusedWithin(List<Call> story, long[] due, int place, Call attempt, String what) {
        TrackNights x = new TrackNights();
        for (int i = 0; i < place; i++) {
            told(x, story.get(i));
        }
        if (told(x, attempt) != Long.MIN_VALUE) {
            return 0;
        }
        for (int i = place; i < due.length; i++) {
            CHECK.is(what + ": call " + i, told(x, story.get(i)), due[i]);
        }
        return 1;
    }
}
