/** Counts checks, prints those that are wrong, and ends the program with 1 if there was one. */
final class Checks {
    interface Call {
        void run();
    }

    private int right = 0;
    private int wrong = 0;
    private String promise = "";

    /** Which promise of the document, and which sentence of it, the checks from here on hold. */
    void promise(int number, String sentence) {
        promise = "promise " + number + ", \"" + sentence + "\": ";
    }

    void is(String what, long got, long due) {
        count(got == due, what + " answered " + got + ", due is " + due);
    }

    void isMean(String what, double got, double due) {
        count(got == due, what + " answered " + got + ", due is " + due);
    }

    void is(String what, boolean got, boolean due) {
        count(got == due, what + " answered " + got + ", due is " + due);
    }

    /** Whether the program's own code threw it: the library's and the machine's exceptions are none of its answers. */
    static boolean isThrownByProgram(RuntimeException e) {
        StackTraceElement[] trace = e.getStackTrace();
        return trace.length > 0 && trace[0].getClassName().startsWith("TrackNights");
    }

    /** A refused call throws this very class, not one below it, and changes nothing that can be asked. */
    void index(TrackNights road, String what, Call call) {
        refused(road, what, IndexOutOfBoundsException.class, call);
    }

    void argument(TrackNights road, String what, Call call) {
        refused(road, what, IllegalArgumentException.class, call);
    }

    void state(TrackNights road, String what, Call call) {
        refused(road, what, IllegalStateException.class, call);
    }

    /** Not refused, whatever it answers. */
    void answers(String what, Call call) {
        String thrown = thrownBy(call);
        count(thrown.equals("nothing"), what + " threw " + thrown + ", an answer is due");
    }

    private static String thrownBy(Call call) {
        try {
            call.run();
        } catch (RuntimeException e) {
            return e.getClass().getName() + (isThrownByProgram(e) ? "" : " by the library");
        }
        return "nothing";
    }

    void refused(TrackNights road, String what, Class<?> due, Call call) {
        long before = road.digest();
        String thrown = thrownBy(call);
        count(thrown.equals(due.getName()), what + " threw " + thrown + ", due is " + due.getName());
        count(road.digest() == before, what + " changed the digest");
    }

    private void count(boolean good, String complaint) {
        if (good) {
            right++;
        } else {
            wrong++;
            System.out.println(promise + complaint);
        }
    }

    void finish() {
        System.out.println(right + " checks right, " + wrong + " wrong");
        if (wrong > 0) {
            System.exit(1);
        }
    }
}
