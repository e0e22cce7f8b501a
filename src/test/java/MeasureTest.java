/** Promises 5, 6, 17 (what is known), 23 (couldSee). */
public final class MeasureTest {
    private static final Checks CHECK = new Checks();

    public static void main(String[] args) {
        measureRefuses();
        alignRefuses();
        atMostTwelve();
        driftIsWritten();
        alignedIsRead();
        latestThatSaysSomething();
        asTheyWereThen();
        smallCracksAreNotSeen();
        couldSeeIsByTheTrueKilometre();
        knownSpeed();
        CHECK.finish();
    }

    /** Kilometre k of track 0 has a WEAR of 2 * k, of track 1 of 20 + 2 * k; no settle, no crack. */
    private static TrackNights stairs() {
        TrackNights x = new TrackNights();
        for (int day = 0; day < 20; day++) {
            for (int s = 0; s < 20; s++) {
                x.curve(s, day < s);
            }
            x.pass(4, 27, 1);
            x.pass(4, 27, 1);
        }
        return x;
    }

    // Promise 5
    private static void measureRefuses() {
        CHECK.promise(5, "if track is not 0 or 1, or from or to not 0 to 9");
        TrackNights x = new TrackNights();
        CHECK.index(x, "measure, track -1", () -> x.measure(-1, 0, 0, 0));
        CHECK.index(x, "measure, track 2", () -> x.measure(2, 0, 0, 0));
        CHECK.index(x, "measure, from -1", () -> x.measure(0, -1, 0, 0));
        CHECK.index(x, "measure, from 10", () -> x.measure(0, 10, 10, 0));
        CHECK.index(x, "measure, to 10", () -> x.measure(0, 0, 10, 0));
        CHECK.index(x, "measure, to -1 is below from", () -> x.measure(0, 0, -1, 0));
        CHECK.promise(5, "if to is below from, or drift not -2 to 2");
        CHECK.argument(x, "measure, to below from", () -> x.measure(0, 5, 4, 0));
        CHECK.argument(x, "measure, drift -3", () -> x.measure(0, 0, 0, -3));
        CHECK.argument(x, "measure, drift 3", () -> x.measure(0, 0, 0, 3));
        CHECK.promise(5, "the one that is named first is thrown");
        CHECK.index(x, "measure, track 2 and drift 3", () -> x.measure(2, 0, 0, 3));
        CHECK.is("many measures", x.many(2), 0);
    }

    // Promise 6
    private static void alignRefuses() {
        CHECK.promise(6, "if there is no such MEASURE");
        TrackNights x = new TrackNights();
        CHECK.index(x, "align(0) without one", () -> x.align(0));
        CHECK.index(x, "align(-1)", () -> x.align(-1));
        x.measure(1, 9, 9, -2);
        CHECK.index(x, "align(1)", () -> x.align(1));
        CHECK.is("aligned ones", x.many(3), 0);
        CHECK.promise(6, "Returns its DRIFT");
        CHECK.is("align(0)", x.align(0), -2);
        CHECK.is("aligned ones", x.many(3), 1);
        CHECK.promise(6, "if it is ALIGNED");
        CHECK.state(x, "align(0) again", () -> x.align(0));
    }

    private static void atMostTwelve() {
        CHECK.promise(5, "if there were 12");
        TrackNights x = new TrackNights();
        for (int i = 0; i < 12; i++) {
            CHECK.is("measure " + i, x.measure(i % 2, 0, 9, i % 5 - 2), i);
        }
        CHECK.state(x, "measure 12", () -> x.measure(0, 0, 9, 0));
        CHECK.argument(x, "measure 12, drift 3", () -> x.measure(0, 0, 9, 3));
        CHECK.is("align the last", x.align(11), -1);
        CHECK.is("many measures", x.many(2), 12);
        CHECK.is("many aligned", x.many(3), 1);
    }

    private static int wearOf(int section) {
        return section < 0 || section > 19 ? -1 : 2 * section + 0;
    }

    private static void driftIsWritten() {
        CHECK.promise(17, "it WRITES the WEAR of the KILOMETRE that is as much as DRIFT more on that TRACK; nothing, if there is none");
        TrackNights x = stairs();
        for (int s = 0; s < 20; s++) {
            CHECK.is("the stairs", x.ofSection(s, 0), wearOf(s));
        }
        x.measure(0, 2, 9, 2);
        for (int k = 2; k <= 7; k++) {
            CHECK.is("WEAR known of " + k, x.known(k, 0), wearOf(k + 2));
            CHECK.is("MEASURE of " + k, x.known(k, 4), 0);
        }
        CHECK.is("before the first kilometre", x.known(1, 4), -1);
        CHECK.is("nothing beyond the track", x.known(8, 4), -1);
        CHECK.is("nothing beyond the track", x.known(9, 4), -1);
        CHECK.is("nothing known is 0", x.known(9, 0), 0);
        CHECK.is("the other track", x.known(12, 4), -1);
        x.measure(1, 0, 3, -1);
        CHECK.is("nothing ahead of the track", x.known(10, 4), -1);
        CHECK.is("known of 11", x.known(11, 0), wearOf(10));
        CHECK.is("known of 13", x.known(13, 0), wearOf(12));
        CHECK.is("known of 14", x.known(14, 4), -1);
    }

    private static void alignedIsRead() {
        CHECK.promise(17, "one that is ALIGNED says of it what it WROTE for the one that is DRIFT less");
        TrackNights x = stairs();
        x.measure(0, 2, 9, 2);
        x.align(0);
        for (int k = 0; k <= 9; k++) {
            CHECK.is("MEASURE of " + k, x.known(k, 4), k >= 4 ? 0 : -1);
            CHECK.is("WEAR known of " + k, x.known(k, 0), k >= 4 ? wearOf(k) : 0);
        }
        x.measure(1, 0, 3, -1);
        x.align(1);
        for (int k = 0; k <= 9; k++) {
            CHECK.is("MEASURE of 1" + k, x.known(10 + k, 4), k <= 2 ? 1 : -1);
            CHECK.is("WEAR known of 1" + k, x.known(10 + k, 0), k <= 2 ? wearOf(10 + k) : 0);
        }
    }

    private static void latestThatSaysSomething() {
        CHECK.promise(17, "what the latest MEASURE says that says something of it");
        TrackNights x = stairs();
        x.measure(0, 0, 9, 0);
        x.measure(0, 7, 9, 1);
        x.measure(0, 7, 7, 2);
        CHECK.is("MEASURE of 7", x.known(7, 4), 2);
        CHECK.is("WEAR of 7", x.known(7, 0), wearOf(9));
        CHECK.is("MEASURE of 8", x.known(8, 4), 1);
        CHECK.is("WEAR of 8", x.known(8, 0), wearOf(9));
        CHECK.is("the latest says nothing of 9", x.known(9, 4), 0);
        x.align(2);
        CHECK.is("MEASURE of 7, 2 aligned", x.known(7, 4), 1);
        CHECK.is("WEAR of 7, 2 aligned", x.known(7, 0), wearOf(8));
        CHECK.is("MEASURE of 9, 2 aligned", x.known(9, 4), 2);
        CHECK.is("WEAR of 9, 2 aligned", x.known(9, 0), wearOf(9));
        x.align(1);
        CHECK.is("MEASURE of 7, both aligned", x.known(7, 4), 0);
        CHECK.is("WEAR of 7, both aligned", x.known(7, 0), wearOf(7));
    }

    private static void asTheyWereThen() {
        CHECK.promise(17, "as they are then");
        TrackNights x = new TrackNights();
        x.pass(20, 27, 3);
        x.measure(0, 4, 4, 0);
        x.pass(20, 27, 3);
        CHECK.is("WEAR now", x.ofSection(4, 0), 12);
        CHECK.is("WEAR as it was", x.known(4, 0), 6);
        CHECK.is("SETTLE as it was", x.known(4, 2), 6);
        CHECK.is("CRACK as it was", x.known(4, 1), 0);
    }

    private static void smallCracksAreNotSeen() {
        CHECK.promise(17, "the CRACK (0, if that is below 5)");
        TrackNights x = new TrackNights();
        x.curve(0, true);
        x.pass(40, 27, 5);
        x.pass(0, 27, 3);
        CHECK.is("CRACK 4", x.ofSection(0, 1), 4);
        x.measure(0, 0, 0, 0);
        CHECK.is("not seen", x.known(0, 1), 0);
        CHECK.is("couldSee", x.couldSee(0), -1);
        x.pass(0, 27, 1);
        x.measure(0, 0, 0, 0);
        CHECK.is("a CRACK of 5 is seen", x.known(0, 1), 5);
        CHECK.is("couldSee", x.couldSee(0), 1);
        x.pass(0, 27, 1);
        x.measure(0, 0, 0, 0);
        CHECK.is("the first one", x.couldSee(0), 1);
        CHECK.is("the latest is known", x.known(0, 1), 6);
    }

    // Promise 23
    private static void couldSeeIsByTheTrueKilometre() {
        CHECK.promise(23, "the first MEASURE that WROTE a CRACK of this SECTION (above 0), for whichever KILOMETRE; NONE without one");
        TrackNights x = new TrackNights();
        x.curve(13, true);
        x.pass(40, 27, 5);
        x.pass(0, 27, 6);
        x.measure(0, 0, 9, 0);
        x.measure(1, 0, 0, 2);
        x.measure(1, 3, 3, 1);
        CHECK.is("couldSee by none yet", x.couldSee(13), -1);
        x.measure(1, 1, 1, 2);
        CHECK.is("couldSee, for another kilometre", x.couldSee(13), 3);
        CHECK.is("couldSee of that kilometre", x.couldSee(11), -1);
        CHECK.is("known of that kilometre", x.known(11, 1), 7);
        x.align(3);
        x.measure(1, 3, 3, 0);
        CHECK.is("couldSee, the first", x.couldSee(13), 3);
        CHECK.is("known by the latest", x.known(13, 4), 4);
        CHECK.is("couldSee of the other track", x.couldSee(3), -1);
        TrackNights y = new TrackNights();
        y.curve(3, true);
        y.pass(40, 27, 5);
        y.pass(0, 27, 6);
        y.measure(0, 3, 3, 0);
        CHECK.is("couldSee by the first of all", y.couldSee(3), 0);
        CHECK.promise(23, "if section is not 0 to 19");
        CHECK.index(x, "couldSee(-1)", () -> x.couldSee(-1));
        CHECK.index(x, "couldSee(20)", () -> x.couldSee(20));
    }

    // Promise 17, with 18
    private static void knownSpeed() {
        CHECK.promise(17, "The KNOWN speed is the SPEED of that (with HEAT, and the FREE of the SECTION)");
        TrackNights x = new TrackNights();
        x.curve(6, true);
        x.pass(40, 27, 6);
        x.measure(0, 5, 6, 1);
        CHECK.is("TRUE speed of 6", x.ofSection(6, 7), 100);
        CHECK.is("KNOWN speed of 5", x.known(5, 3), 100);
        CHECK.is("why by what is KNOWN of 5", x.why(5, true), 1);
        CHECK.is("KNOWN speed of 6", x.known(6, 3), 120);
        CHECK.is("why by what is KNOWN of 6", x.why(6, true), 3);
        CHECK.is("why by its values", x.why(6, false), 1);
        CHECK.is("KNOWN SETTLE of 6", x.known(6, 2), 24);
        CHECK.is("many 13", x.many(13), 20);
        CHECK.is("many 14", x.many(14), 2);
        x.sign(5, 100);
        CHECK.is("many 14", x.many(14), 1);
        x.sign(5, 101);
        CHECK.is("many 14", x.many(14), 2);
        x.pass(0, 60, 1);
        CHECK.is("KNOWN speed with HEAT", x.known(7, 3), 40);
        CHECK.is("why with HEAT", x.why(7, true), 4);
        CHECK.is("many 14 with HEAT", x.many(14), 20);
        CHECK.promise(17, "if section is not 0 to 19");
        CHECK.index(x, "known(-1, 0)", () -> x.known(-1, 0));
        CHECK.index(x, "known(20, 9)", () -> x.known(20, 9));
        CHECK.promise(17, "if what is not 0 to 4");
        CHECK.argument(x, "known(0, -1)", () -> x.known(0, -1));
        CHECK.argument(x, "known(0, 5)", () -> x.known(0, 5));
    }
}
