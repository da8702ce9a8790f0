import java.math.BigInteger;

/** Promises 24 and 25 at their boundaries: each method is a test of one that the document tells. */
public final class ToldBoundariesTest {
    private static final Due due = new Due("told, boundaries");

    public static void main(String[] args) {
        for (int n : Reading.LENGTHS) {
            countOfTheLeastAndGreatest(n);
            countOfNothing(n);
            digestOfFullStreams(n);
        }
        digestOfALastBit();
        digestOfTheGreatestAndLeastNumbers();
        digestFollowsWhatItTells();
        digestOfSixtyMisses();
        digestIsDeafToRefusals();
        due.end();
    }

    // ---- 24: count

    private static void countOfTheLeastAndGreatest(int n) {
        BitStreams x = Reading.used(n);
        due.is("count(0)", x.count(0), n);
        due.is("count(1)", x.count(1), 2);
        due.is("count(2)", x.count(2), 10);
        due.is("count(3)", x.count(3), 1);
    }

    private static void countOfNothing(int n) {
        for (int what : Reading.beyond(0, 3)) {
            due.refused(() -> Reading.used(n), "count(" + what + ")", x -> x.count(what), BitStreams.OUTSIDE);
        }
    }

    // ---- 25: digest

    private static BigInteger grown(long... numbers) {
        BigInteger h = BigInteger.valueOf(157);
        for (long number : numbers) {
            h = h.multiply(BigInteger.valueOf(31)).add(BigInteger.valueOf(number));
        }
        return h;
    }

    /** Without any wrapping h would be far beyond a long: what is due is its last 64 figures. */
    private static void digestIs(String what, BitStreams x, long... numbers) {
        BigInteger h = grown(numbers);
        due.is(what + ": numbers", numbers.length, 34);
        due.holds(what + " wraps", h.bitLength() > 64);
        due.is(what, x.digest(), h.longValue());
    }

    /** LENGTH, the streams' ones and bits, then state, degree, SCALE, a(0) to a(4), misses. */
    private static long[] numbers(int n, long[] rows, long... behind) {
        long[] all = new long[1 + 2 * rows.length + behind.length];
        all[0] = n;
        for (int t = 0; t < rows.length; t++) {
            all[1 + 2 * t] = Long.bitCount(rows[t]);
            all[2 + 2 * t] = rows[t];
        }
        System.arraycopy(behind, 0, all, 1 + 2 * rows.length, behind.length);
        return all;
    }

    private static void digestOfFullStreams(int n) {
        BitStreams x = Reading.ofLength(n);
        long[] rows = new long[Reading.STREAMS];
        digestIs("digest of empty streams", x, numbers(n, rows, -1, 0, 1, 0, 0, 0, 0, 0, 0));
        for (int t = 0; t < Reading.STREAMS; t++) {
            x.not(t, t);
            rows[t] = Reading.full(n);
            digestIs("digest of full streams to " + t, x, numbers(n, rows, -1, 0, 1, 0, 0, 0, 0, 0, 0));
        }
    }

    /** By LENGTH 64 a row with its last bit alone is the least long. */
    private static void digestOfALastBit() {
        for (int t : new int[] {0, 11}) {
            BitStreams x = Reading.ofLength(64);
            x.put(t, 63, true);
            long[] rows = new long[Reading.STREAMS];
            rows[t] = Long.MIN_VALUE;
            digestIs("digest of a last bit", x, numbers(64, rows, -1, 0, 1, 0, 0, 0, 0, 0, 0));
            x.not(t, t);
            rows[t] = Long.MAX_VALUE;
            digestIs("digest of all but a last bit", x, numbers(64, rows, -1, 0, 1, 0, 0, 0, 0, 0, 0));
        }
    }

    private static void digestOfTheGreatestAndLeastNumbers() {
        long[] rows = new long[Reading.STREAMS];
        BitStreams x = Reading.withForm(1000, 1000, 1000, 1000, 1000, 1000);
        digestIs("digest of the greatest", x, numbers(8, rows, -1, 4, 1000, 1000, 1000, 1000, 1000, 1000, 0));
        BitStreams y = Reading.withForm(1, -1000, -1000, -1000, -1000, -1000);
        digestIs("digest of the least", y, numbers(8, rows, -1, 4, 1, -1000, -1000, -1000, -1000, -1000, 0));
    }

    private static void digestFollowsWhatItTells() {
        BitStreams x = new BitStreams();
        long[] rows = new long[Reading.STREAMS];
        x.machine(0, 8, 1);
        digestIs("digest, the lowest state", x, numbers(8, rows, 0, 0, 1, 0, 0, 0, 0, 0, 0));
        x.not(0, 0);
        x.machine(0, 8, 1);
        rows[0] = 255;
        rows[1] = 255;
        digestIs("digest, the highest state", x, numbers(8, rows, 7, 0, 1, 0, 0, 0, 0, 0, 0));
        Reading.giveForm(x, 10, 2, 5, -4);
        digestIs("digest, a form", x, numbers(8, rows, 7, 2, 10, 2, 5, -4, 0, 0, 0));
        x.degree(0, 10);
        digestIs("digest, numbers gone", x, numbers(8, rows, 7, 0, 10, 2, 0, 0, 0, 0, 0));
        x.length(64);
        digestIs("digest, a LENGTH told", x, numbers(64, new long[Reading.STREAMS], 7, 0, 10, 2, 0, 0, 0, 0, 0));
    }

    private static void digestOfSixtyMisses() {
        BitStreams x = new BitStreams();
        long[] rows = new long[Reading.STREAMS];
        for (int times = 1; times <= 62; times++) {
            x.miss(0, 0, 0, 0);
            digestIs("digest of misses", x, numbers(8, rows, -1, 0, 1, 0, 0, 0, 0, 0, Math.min(times, 60)));
        }
    }

    private static void digestIsDeafToRefusals() {
        for (int n : Reading.LENGTHS) {
            BitStreams x = Reading.used(n);
            long before = x.digest();
            due.is("digest again", x.digest(), before);
            x.length(9);
            x.source(0, 0, n + 1);
            x.put(0, n, true);
            x.gate(7, 0, 0, 0, 0);
            x.not(0, 12);
            x.later(0, 65, 0);
            x.flip(0, -1L, n + 1);
            x.miss(4, 0, 0, 0);
            x.machine(0, 3, 0);
            x.degree(5, 1);
            x.term(3, 1);
            x.make(0, 0, 0, 11);
            due.is("digest behind refusals", x.digest(), before);
        }
    }
}
