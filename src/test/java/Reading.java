import java.util.function.Supplier;
import java.util.function.ToLongFunction;

/** Makes objects for tests and reads them. An object is promised for 512 calls: none here is used for more. */
final class Reading {
    static final int STREAMS = 12;
    static final int[] LENGTHS = {8, 16, 32, 64};
    static final int[] NO_STREAMS = beyond(0, STREAMS - 1);
    private static final int STREAMS_OF_A_READING = 4;

    private Reading() {
    }

    /** What is not from least to most: the first beyond it on either side, and the farthest. */
    static int[] beyond(int least, int most) {
        return new int[] {least - 1, most + 1, Integer.MIN_VALUE, Integer.MAX_VALUE};
    }

    static BitStreams ofLength(int n) {
        BitStreams x = new BitStreams();
        x.length(n);
        return x;
    }

    /** An object of which nothing is as it was at first: a call that changes something is seen by it. */
    static BitStreams used(int n) {
        BitStreams x = ofLength(n);
        for (int t = 0; t < STREAMS; t++) {
            x.source(t, t % 4, n / 2 + t % 3);
        }
        x.machine(3, 6, 3);
        x.degree(2, 10);
        x.term(0, 2);
        x.term(1, 5);
        x.term(2, -4);
        x.miss(0, 0, 2, 0);
        return x;
    }

    static BitStreams withForm(int scale, int... numbers) {
        BitStreams x = new BitStreams();
        giveForm(x, scale, numbers);
        return x;
    }

    static void giveForm(BitStreams x, int scale, int... numbers) {
        x.degree(numbers.length - 1, scale);
        for (int i = 0; i < numbers.length; i++) {
            x.term(i, numbers[i]);
        }
    }

    /** A row of n ones, as a long. */
    static long full(int n) {
        return -1L >>> 64 - n;
    }

    /** A stream's bits as a long, by bit(). */
    static long bits(BitStreams x, int t) {
        int n = x.count(0);
        long row = 0;
        for (int i = 0; i < n; i++) {
            row |= (long) x.bit(t, i) << i;
        }
        return row;
    }

    /** Makes a stream's bits those of a long, by put(). */
    static void write(BitStreams x, int t, long row) {
        int n = x.count(0);
        for (int i = 0; i < n; i++) {
            x.put(t, i, (row >>> i & 1) == 1);
        }
    }

    /** All that can be told of an object behind a first call, read of as many objects as their 512 calls ask for. */
    static String all(Supplier<BitStreams> made, ToLongFunction<BitStreams> first) {
        StringBuilder text = new StringBuilder();
        for (int t = 0; t < STREAMS; t += STREAMS_OF_A_READING) {
            BitStreams x = behind(made, first);
            for (int i = t; i < t + STREAMS_OF_A_READING; i++) {
                text.append(x.ones(i)).append(':').append(bits(x, i)).append(' ');
            }
        }
        BitStreams x = behind(made, first);
        text.append(x.digest()).append(' ').append(x.state()).append(' ').append(x.least()).append(' ');
        text.append(x.where(0)).append(' ').append(x.where(1)).append(' ');
        for (int what = 0; what < 4; what++) {
            text.append(x.count(what)).append(' ');
        }
        // Now the numbers, also those that stand behind the degree; this changes the object, which nobody reads again.
        for (int i = 0; i <= x.count(1); i++) {
            text.append(x.term(i, 0)).append(' ');
        }
        x.degree(4, 1);
        for (int i = 0; i <= 4; i++) {
            text.append(x.term(i, 0)).append(' ');
        }
        return text.toString();
    }

    private static BitStreams behind(Supplier<BitStreams> made, ToLongFunction<BitStreams> first) {
        BitStreams x = made.get();
        first.applyAsLong(x);
        return x;
    }
}
