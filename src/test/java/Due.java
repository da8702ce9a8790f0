import java.util.function.Supplier;
import java.util.function.ToLongFunction;

/** Gathers answers that are not the ones that are due, and ends a test with exit code 1 if there was one. */
final class Due {
    private final String test;
    private int asked = 0;
    private int wrong = 0;

    Due(String test) {
        this.test = test;
    }

    void is(String call, long got, long want) {
        asked++;
        if (got != want) {
            wrong++;
            System.out.println(test + ": " + call + " answered " + got + ", due is " + want);
        }
    }

    void holds(String what, boolean is) {
        asked++;
        if (!is) {
            wrong++;
            System.out.println(test + ": " + what + " does not hold");
        }
    }

    /** A stream's bits, and that ones() goes with them. */
    void row(String call, BitStreams x, int t, long want) {
        is("bits behind " + call, Reading.bits(x, t), want);
        is("ones behind " + call, x.ones(t), Long.bitCount(want));
    }

    /** A refused call: its answer, and that all that can be told of the object is what it is without that call. */
    void refused(Supplier<BitStreams> made, String call, ToLongFunction<BitStreams> asking, long want) {
        is(call, asking.applyAsLong(made.get()), want);
        holds("that refused " + call + " changes nothing",
                Reading.all(made, asking).equals(Reading.all(made, x -> 0L)));
    }

    void end() {
        System.out.println(test + ": " + (asked - wrong) + " of " + asked + " as due");
        if (wrong != 0) {
            System.exit(1);
        }
    }
}
