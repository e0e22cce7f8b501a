/**
 * Long runs of calls, some of them wrong, on a TrackNights and on a PlainRoad; each answer and many digests are compared.
 * The runs are the same each time: they come from a row of numbers, not from a random source.
 */
public final class RunsTest {
    private static final int RUNS = 600;
    private static final int CALLS = 512;
    private static final int KINDS = 27;
    private static final String[] NAMES = {"curve", "sign", "pass", "measure", "align", "machine", "service", "book", "work",
        "cancel", "mark", "take", "giveBack", "walk", "ofSection", "known", "why", "ofMachine", "ofPossession", "many", "meanWear",
        "couldSee", "firstRisk", "bestWork", "freeDay", "wouldOverrun", "digest"};
    /** How each call ended: 0 by an answer, 1 IndexOutOfBounds, 2 IllegalArgument, 3 IllegalState. */
    private static final String[] OUTCOMES = {"01", "012", "023", "0123", "013", "023", "013", "0123", "0123", "013", "013", "013",
        "013", "012", "012", "012", "01", "012", "012", "02", "01", "01", "012", "012", "012", "013", "0"};
    /** Calls that change the road come more often than those that ask. */
    private static final int[] WEIGHTS = {2, 3, 9, 4, 2, 2, 3, 8, 12, 3, 6, 4, 4, 4, 3, 3, 2, 2, 2, 2, 1, 2, 2, 2, 2, 3, 1};
    private static final int[] WILD = {-1, 20, 10, 2, 3, 4, 5, 9, 41, 61, 161, 201, 2001, -21, -3, 100, 49,
        Integer.MAX_VALUE, Integer.MIN_VALUE, 1 << 30};

    private static final Checks CHECK = new Checks();
    private static final int[][] SEEN = new int[KINDS][4];
    private static long row = 4809;

    private static TrackNights x;
    private static PlainRoad y;
    private static final int[] a = new int[5];

    public static void main(String[] args) {
        for (int run = 0; run < RUNS; run++) {
            oneRun(run);
        }
        for (int kind = 0; kind < KINDS; kind++) {
            for (int outcome = 0; outcome < 4; outcome++) {
                boolean due = OUTCOMES[kind].indexOf('0' + outcome) >= 0;
                CHECK.is(NAMES[kind] + " ended by " + outcome, SEEN[kind][outcome] > 0, due);
            }
        }
        CHECK.finish();
    }

    private static void oneRun(int run) {
        x = new TrackNights();
        y = new PlainRoad();
        boolean late = run % 10 == 9;
        for (int i = 0; late && i < 32; i++) {
            x.pass(1, 30, 60);
            y.pass(1, 30, 60);
        }
        for (int call = 0; call < CALLS; call++) {
            int kind = nextKind();
            chooseArguments(kind);
            String what = "run " + run + ", call " + call + ": " + NAMES[kind] + " " + java.util.Arrays.toString(a);
            long due = onPlain(kind);
            long got = onProgram(kind);
            int outcome = due == PlainRoad.INDEX ? 1 : due == PlainRoad.ARGUMENT ? 2 : due == PlainRoad.STATE ? 3 : 0;
            SEEN[kind][outcome]++;
            if (got != due) {
                CHECK.is(what, got, due);
                return;
            }
            if ((outcome > 0 && roll(4) == 0) || call % 32 == 31) {
                CHECK.is(what + ", the digest behind it", x.digest(), y.digest());
            }
        }
    }

    private static int roll(int below) {
        row = row * 6364136223846793005L + 1442695040888963407L;
        return (int) ((row >>> 33) % below);
    }

    private static int nextKind() {
        int sum = 0;
        for (int weight : WEIGHTS) {
            sum += weight;
        }
        int left = roll(sum);
        int kind = 0;
        while (left >= WEIGHTS[kind]) {
            left -= WEIGHTS[kind];
            kind++;
        }
        return kind;
    }

    private static int possession() {
        // A night of this day, if there is one, since most calls ask for that.
        for (int i = 0; i < y.possessions; i++) {
            int number = (i + roll(3)) % y.possessions;
            if (y.p[number][4] == y.day && y.p[number][0] < 2 && roll(4) > 0) {
                return number;
            }
        }
        return y.possessions == 0 ? 0 : roll(y.possessions);
    }

    private static int daysToPass() {
        for (int i = 0; i < y.possessions; i++) {
            int ahead = y.p[i][4] - y.day;
            if (y.p[i][0] == 0 && ahead > 0 && ahead <= 60 && roll(3) > 0) {
                return ahead;
            }
        }
        return roll(5) == 0 ? 1 + roll(60) : 1 + roll(6);
    }

    private static void chooseArguments(int kind) {
        int track = roll(2);
        int from = roll(10);
        int to = from + roll(10 - from);
        switch (kind) {
            case 0: case 16: set(roll(20), roll(2), 0, 0, 0); break;
            case 1: set(roll(20), roll(3) == 0 ? roll(161) : 20 * roll(9), 0, 0, 0); break;
            case 2: set(roll(41), roll(2) == 0 ? 27 : roll(81) - 20, daysToPass(), 0, 0); break;
            case 3: set(track, from, to, roll(5) - 2, 0); break;
            case 4: set(y.measures == 0 ? 0 : roll(y.measures), 0, 0, 0, 0); break;
            case 5: set(roll(3), roll(2) == 0 ? roll(100) : roll(8), 0, 0, 0); break;
            case 6: set(y.machines == 0 ? 0 : roll(y.machines), 0, 0, 0, 0); break;
            case 7: set(track, from, to, y.day + 5 + roll(roll(3) == 0 ? 40 : 3), 2 + roll(7)); break;
            case 8: chooseWork(); break;
            case 10: set(possession(), roll(2), 0, 0, 0); break;
            case 13: set(roll(20), roll(2) == 0 ? 50 + roll(1951) : 50 + roll(200), 0, 0, 0); break;
            case 14: set(roll(20), roll(8), 0, 0, 0); break;
            case 15: set(roll(20), roll(5), 0, 0, 0); break;
            case 17: set(y.machines == 0 ? 0 : roll(y.machines), roll(4), 0, 0, 0); break;
            case 18: set(y.possessions == 0 ? 0 : roll(y.possessions), roll(10), 0, 0, 0); break;
            case 19: set(roll(17), 0, 0, 0, 0); break;
            case 20: set(track, 0, 0, 0, 0); break;
            case 21: set(roll(20), 0, 0, 0, 0); break;
            case 22: set(roll(20), roll(41), 0, 0, 0); break;
            case 23: set(roll(20), roll(41), 1 + roll(roll(2) == 0 ? 200 : 20), 0, 0); break;
            case 24: set(track, from, to, 0, 0); break;
            default: set(possession(), 0, 0, 0, 0);
        }
        if (roll(12) == 0) {
            a[roll(5)] = WILD[roll(WILD.length)];
        }
    }

    private static void chooseWork() {
        int possession = possession();
        int section = roll(20);
        if (possession < y.possessions && roll(8) > 0) {
            int[] v = y.p[possession];
            section = v[1] * 10 + v[2] + roll(v[3] - v[2] + 1);
        }
        set(possession, section, y.machines == 0 ? 0 : roll(y.machines), 0, 0);
    }

    private static void set(int a0, int a1, int a2, int a3, int a4) {
        a[0] = a0;
        a[1] = a1;
        a[2] = a2;
        a[3] = a3;
        a[4] = a4;
    }

    /** Only these very classes count, thrown by the program itself: any other would be the machine's own. */
    private static long onProgram(int kind) {
        try {
            return ask(kind);
        } catch (RuntimeException e) {
            if (!Checks.isThrownByProgram(e)) {
                throw e;
            }
            if (e.getClass() == IndexOutOfBoundsException.class) {
                return PlainRoad.INDEX;
            }
            if (e.getClass() == IllegalArgumentException.class) {
                return PlainRoad.ARGUMENT;
            }
            if (e.getClass() == IllegalStateException.class) {
                return PlainRoad.STATE;
            }
            throw e;
        }
    }

    private static long ask(int kind) {
        switch (kind) {
            case 0: return x.curve(a[0], a[1] == 1) ? 1 : 0;
            case 1: return x.sign(a[0], a[1]);
            case 2: return x.pass(a[0], a[1], a[2]);
            case 3: return x.measure(a[0], a[1], a[2], a[3]);
            case 4: return x.align(a[0]);
            case 5: return x.machine(a[0], a[1]);
            case 6: return x.service(a[0]);
            case 7: return x.book(a[0], a[1], a[2], a[3], a[4]);
            case 8: return x.work(a[0], a[1], a[2]);
            case 9: return x.cancel(a[0]);
            case 10: return x.mark(a[0], a[1]);
            case 11: return x.take(a[0]);
            case 12: return x.giveBack(a[0]);
            case 13: return x.walk(a[0], a[1]) ? 1 : 0;
            case 14: return x.ofSection(a[0], a[1]);
            case 15: return x.known(a[0], a[1]);
            case 16: return x.why(a[0], a[1] == 1);
            case 17: return x.ofMachine(a[0], a[1]);
            case 18: return x.ofPossession(a[0], a[1]);
            case 19: return x.many(a[0]);
            case 20: return Double.doubleToLongBits(x.meanWear(a[0]));
            case 21: return x.couldSee(a[0]);
            case 22: return x.firstRisk(a[0], a[1]);
            case 23: return x.bestWork(a[0], a[1], a[2]);
            case 24: return x.freeDay(a[0], a[1], a[2]);
            case 25: return x.wouldOverrun(a[0]);
            default: return x.digest();
        }
    }

    private static long onPlain(int kind) {
        switch (kind) {
            case 0: return y.curve(a[0], a[1] == 1);
            case 1: return y.sign(a[0], a[1]);
            case 2: return y.pass(a[0], a[1], a[2]);
            case 3: return y.measure(a[0], a[1], a[2], a[3]);
            case 4: return y.align(a[0]);
            case 5: return y.machine(a[0], a[1]);
            case 6: return y.service(a[0]);
            case 7: return y.book(a[0], a[1], a[2], a[3], a[4]);
            case 8: return y.work(a[0], a[1], a[2]);
            case 9: return y.cancel(a[0]);
            case 10: return y.mark(a[0], a[1]);
            case 11: return y.take(a[0]);
            case 12: return y.giveBack(a[0]);
            case 13: return y.walk(a[0], a[1]);
            case 14: return y.ofSection(a[0], a[1]);
            case 15: return y.known(a[0], a[1]);
            case 16: return y.why(a[0], a[1] == 1);
            case 17: return y.ofMachine(a[0], a[1]);
            case 18: return y.ofPossession(a[0], a[1]);
            case 19: return y.many(a[0]);
            case 20: return meanOnPlain();
            case 21: return y.couldSee(a[0]);
            case 22: return y.firstRisk(a[0], a[1]);
            case 23: return y.bestWork(a[0], a[1], a[2]);
            case 24: return y.freeDay(a[0], a[1], a[2]);
            case 25: return y.wouldOverrun(a[0]);
            default: return y.digest();
        }
    }

    private static long meanOnPlain() {
        long sum = y.sumOfWear(a[0]);
        return sum == PlainRoad.INDEX ? sum : Double.doubleToLongBits(sum / 10.0);
    }
}
