/** Gathers answers that are not the ones that are due, and ends a test with exit code 1 if there was one. */
final class Due {
    private final String test;
    private int asked = 0;
    private int wrong = 0;

    Due(String test) {
        this.test = test;
    }

    void is(String call, long got, long want) {
        asked++;
        if (got != want) {
            wrong++;
            System.out.println(test + ": " + call + " answered " + got + ", due is " + want);
        }
    }

    void holds(String what, boolean is) {
        asked++;
        if (!is) {
            wrong++;
            System.out.println(test + ": " + what + " does not hold");
        }
    }

    /** A refused call: its answer, and that all that can be told is what it was before. */
    void refused(BitStreams x, String call, Call made, long want) {
        String before = Reading.all(x);
        is(call, made.answer(), want);
        String behind = Reading.all(x);
        holds("that refused " + call + " changes nothing", before.equals(behind));
    }

    void end() {
        System.out.println(test + ": " + (asked - wrong) + " of " + asked + " as due");
        if (wrong != 0) {
            System.exit(1);
        }
    }

    interface Call {
        long answer();
    }
}
