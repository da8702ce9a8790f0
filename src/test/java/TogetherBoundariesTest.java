/** Promises 11 to 14 at their boundaries: each method is a test of one that the document tells. */
public final class TogetherBoundariesTest {
    private static final Due due = new Due("together, boundaries");

    public static void main(String[] args) {
        for (int n : Reading.LENGTHS) {
            both(n);
            together(n);
            miss(n);
            where(n);
        }
        togetherByHand();
        missOfTheLeastAndGreatestSum();
        whereOfSeveral();
        due.end();
    }

    private static BitStreams withRows(int n, long a, long b) {
        BitStreams x = Reading.ofLength(n);
        Reading.write(x, 0, a);
        Reading.write(x, 11, b);
        return x;
    }

    // ---- 11: both

    private static void both(int n) {
        bothOfEmptyAndFull(n);
        bothOfALastBit(n);
        bothOfNoStream(n);
        bothOfNoSort(n);
        bothUnknownComesFirst(n);
    }

    private static void bothAre(int n, long a, long b, int... wanted) {
        BitStreams x = withRows(n, a, b);
        for (int sort = 0; sort <= 3; sort++) {
            due.is("both, sort " + sort + " of " + n, x.both(0, 11, sort), wanted[sort]);
        }
    }

    private static void bothOfEmptyAndFull(int n) {
        long full = Reading.full(n);
        bothAre(n, full, full, n, 0, 0, 0);
        bothAre(n, full, 0L, 0, n, 0, 0);
        bothAre(n, 0L, full, 0, 0, n, 0);
        bothAre(n, 0L, 0L, 0, 0, 0, n);
    }

    private static void bothOfALastBit(int n) {
        long last = 1L << n - 1;
        bothAre(n, last, last, 1, 0, 0, n - 1);
        bothAre(n, last, 1L, 0, 1, 1, n - 2);
        bothAre(n, last, Reading.full(n), 1, 0, n - 1, 0);
    }

    private static void bothOfNoStream(int n) {
        for (int no : Reading.NO_STREAMS) {
            for (int sort = 0; sort <= 3; sort++) {
                int s = sort;
                due.refused(() -> Reading.used(n), "both, a " + no, x -> x.both(no, 1, s), BitStreams.UNKNOWN);
                due.refused(() -> Reading.used(n), "both, b " + no, x -> x.both(1, no, s), BitStreams.UNKNOWN);
            }
        }
    }

    private static void bothUnknownComesFirst(int n) {
        for (int no : Reading.NO_STREAMS) {
            due.refused(() -> Reading.used(n), "both, a and sort", x -> x.both(no, 1, 4), BitStreams.UNKNOWN);
            due.refused(() -> Reading.used(n), "both, b and sort", x -> x.both(1, no, -1), BitStreams.UNKNOWN);
        }
    }

    private static void bothOfNoSort(int n) {
        for (int no : Reading.beyond(0, 3)) {
            due.refused(() -> Reading.used(n), "both, sort " + no, x -> x.both(0, 1, no), BitStreams.OUTSIDE);
        }
    }

    // ---- 12: together

    private static void together(int n) {
        togetherOfEmptyAndFull(n);
        togetherOfAllAlikeAndAllUnlike(n);
        togetherOfOneByOne(n);
        togetherOfNoStream(n);
    }

    private static void togetherIs(int n, long a, long b, int want) {
        BitStreams x = withRows(n, a, b);
        String call = "together of " + Long.toBinaryString(a) + ", " + Long.toBinaryString(b) + " of " + n;
        due.is(call, x.together(0, 11), want);
        due.is(call + ", changed over", x.together(11, 0), want);
    }

    /** With an empty or a full row p s and q r are both 0, whatever the other row is; so is what would stand below. */
    private static void togetherOfEmptyAndFull(int n) {
        long full = Reading.full(n);
        for (long other : new long[] {0L, 1L, 1L << n - 1, 0b1011L, full ^ 1L, full}) {
            togetherIs(n, 0L, other, 0);
            togetherIs(n, full, other, 0);
        }
    }

    /** From just one 1 to all but one. */
    private static void togetherOfAllAlikeAndAllUnlike(int n) {
        long full = Reading.full(n);
        for (int ones = 1; ones < n; ones++) {
            long row = Reading.full(ones);
            togetherIs(n, row, row, 1000);
            togetherIs(n, row, full ^ row, -1000);
        }
    }

    /** 1 by 1 and -1 by 1: as little stands below as can, beside none at all. */
    private static void togetherOfOneByOne(int n) {
        long last = 1L << n - 1;
        long full = Reading.full(n);
        togetherIs(n, 1L, full ^ last, 1000);
        togetherIs(n, last, full ^ 1L, 1000);
        togetherIs(n, 1L, last, -1000);
        togetherIs(n, full ^ 1L, full ^ last, -1000);
    }

    private static void togetherOfNoStream(int n) {
        for (int no : Reading.NO_STREAMS) {
            due.refused(() -> Reading.used(n), "together, a " + no, x -> x.together(no, 1), -100000);
            due.refused(() -> Reading.used(n), "together, b " + no, x -> x.together(1, no), -100000);
            due.refused(() -> Reading.used(n), "together, both " + no, x -> x.together(no, no), -100000);
        }
        due.is("together of a stream and itself", Reading.used(n).together(11, 11), 1000);
    }

    private static long rowOf(int from, int ones) {
        return Reading.full(ones) << from;
    }

    private static void togetherByHand() {
        // p s like q r: 2 times 2, 2 times 2.
        togetherIs(8, 0b00001111, 0b00110011, 0);
        // Above: 14 by 30 is cut to 466; below: -4 by 12 to -333 (p less than s), -1 by 9 to -111 (p more than s).
        togetherIs(8, 0b00000111, 0b00001011, 466);
        togetherIs(8, 0b00001111, 0b00110001, -333);
        togetherIs(8, 0b00011111, 0b01100111, -111);
        // p just s: -8 by 16; s 0: -9 by 25 less 16.
        togetherIs(8, 0b00001111, 0b01110001, -500);
        togetherIs(8, 0b00011111, 0b11100011, -1000);
        // The nearest to 0 that there are: 31 and 33 ones, 16 in both, 1 by 961; 25 and 41, 16 in both, -1 by 897.
        togetherIs(64, rowOf(0, 31), rowOf(15, 33), 1);
        togetherIs(64, rowOf(0, 25), rowOf(9, 41), -1);
    }

    // ---- 13: miss

    private static void miss(int n) {
        missOfTheLeastAndGreatest(n);
        missGoesRound(n);
        missOfNoGate(n);
        missOfNoSource(n);
        missOfNoShift(n);
        missSixtyTimes(n);
        missTheSixtyFirst(n);
        missRefusedIsNotDone(n);
        missOutsideComesBeforeState(n);
    }

    private static void missOfTheLeastAndGreatest(int n) {
        for (int gate : new int[] {0, 3}) {
            for (int source : new int[] {0, 3}) {
                for (int k : new int[] {0, 63}) {
                    missIs(n, gate, source, 3 - source, k);
                    missIs(n, gate, source, source, k);
                }
            }
        }
    }

    private static void missIs(int n, int gate, int s, int u, int k) {
        BitStreams x = Reading.ofLength(n);
        PlainModel model = new PlainModel();
        model.length(n);
        String call = "miss(" + gate + ", " + s + ", " + u + ", " + k + ") of " + n;
        due.is(call, x.miss(gate, s, u, k), model.miss(gate, s, u, k));
        due.is(call + ": v", x.where(0), model.missV);
        due.is(call + ": w", x.where(1), model.missW);
    }

    /** A SHIFT of LENGTH is a whole round; 63 is one less than a round of every LENGTH. */
    private static void missGoesRound(int n) {
        BitStreams x = Reading.ofLength(n);
        for (int gate = 0; gate <= 3; gate++) {
            due.is("shift 63 of " + n, x.miss(gate, 1, 3, 63), x.miss(gate, 1, 3, n - 1));
            if (n < 64) {
                due.is("shift " + n + " of " + n, x.miss(gate, 2, 3, n), x.miss(gate, 2, 3, 0));
                due.is("shift " + (n + 1) + " of " + n, x.miss(gate, 0, 3, n + 1), x.miss(gate, 0, 3, 1));
            }
        }
    }

    private static void missOfNoGate(int n) {
        for (int no : Reading.beyond(0, 3)) {
            due.refused(() -> Reading.used(n), "miss, gate " + no, x -> x.miss(no, 0, 0, 0), BitStreams.OUTSIDE);
        }
        // The last GATES have no miss.
        due.refused(() -> Reading.used(n), "miss, gate 5", x -> x.miss(5, 0, 0, 0), BitStreams.OUTSIDE);
        due.refused(() -> Reading.used(n), "miss, gate 6", x -> x.miss(6, 0, 0, 0), BitStreams.OUTSIDE);
    }

    private static void missOfNoSource(int n) {
        for (int no : Reading.beyond(0, 3)) {
            due.refused(() -> Reading.used(n), "miss, s " + no, x -> x.miss(0, no, 0, 0), BitStreams.OUTSIDE);
            due.refused(() -> Reading.used(n), "miss, u " + no, x -> x.miss(0, 0, no, 0), BitStreams.OUTSIDE);
        }
    }

    private static void missOfNoShift(int n) {
        for (int no : Reading.beyond(0, 63)) {
            due.refused(() -> Reading.used(n), "miss, k " + no, x -> x.miss(0, 0, 0, no), BitStreams.OUTSIDE);
        }
    }

    private static BitStreams missed(int n, int times) {
        BitStreams x = Reading.ofLength(n);
        x.source(7, 1, 5);
        for (int i = 0; i < times; i++) {
            x.miss(0, 0, 0, 0);
        }
        return x;
    }

    /** Two ramps miss most in the middle. */
    private static void missSixtyTimes(int n) {
        BitStreams x = missed(n, 59);
        due.is("59 times", x.count(3), 59);
        due.is("the 60th", x.miss(3, 0, 0, 0), n * n / 2);
        due.is("60 times", x.count(3), 60);
        due.is("the 61st", x.miss(3, 0, 0, 0), BitStreams.STATE);
        due.is("the 62nd", x.miss(0, 1, 1, 1), BitStreams.STATE);
        due.is("60 times still", x.count(3), 60);
        due.is("where(0) of the 60th", x.where(0), n / 2);
        due.is("where(1) of the 60th", x.where(1), n / 2);
    }

    /** Also of another LENGTH, and of the same told again. */
    private static void missTheSixtyFirst(int n) {
        due.refused(() -> missed(n, 60), "the 61st", y -> y.miss(1, 2, 1, 3), BitStreams.STATE);
        for (int next : Reading.LENGTHS) {
            due.refused(() -> {
                BitStreams y = missed(n, 60);
                y.length(next);
                return y;
            }, "the 61st, of another LENGTH", y -> y.miss(1, 2, 1, 3), BitStreams.STATE);
        }
    }

    private static void missRefusedIsNotDone(int n) {
        BitStreams x = missed(n, 59);
        for (int i = 0; i < 5; i++) {
            due.is("one refused", x.miss(4, 0, 0, 0), BitStreams.OUTSIDE);
        }
        due.is("59 times", x.count(3), 59);
        due.is("the 60th", x.miss(0, 0, 0, 0), n * n / 4);
    }

    private static void missOutsideComesBeforeState(int n) {
        due.refused(() -> missed(n, 60), "the 61st, gate", x -> x.miss(-1, 0, 0, 0), BitStreams.OUTSIDE);
        due.refused(() -> missed(n, 60), "the 61st, s", x -> x.miss(0, 4, 0, 0), BitStreams.OUTSIDE);
        due.refused(() -> missed(n, 60), "the 61st, u", x -> x.miss(0, 0, -1, 0), BitStreams.OUTSIDE);
        due.refused(() -> missed(n, 60), "the 61st, k", x -> x.miss(0, 0, 0, 64), BitStreams.OUTSIDE);
    }

    /** By LENGTH 64 two rows that are all alike miss a fourth of LENGTH squared, by UNLIKE and LIKE a half. */
    private static void missOfTheLeastAndGreatestSum() {
        BitStreams x = Reading.ofLength(64);
        for (int source = 0; source <= 3; source++) {
            due.is("AND of a source and itself", x.miss(0, source, source, 0), 1024);
            due.is("OR of a source and itself", x.miss(1, source, source, 0), 1024);
            due.is("UNLIKE of a source and itself", x.miss(2, source, source, 0), 2048);
            due.is("LIKE of a source and itself", x.miss(3, source, source, 0), 2048);
            due.is("their v", x.where(0), 32);
            due.is("their w", x.where(1), 32);
        }
    }

    // ---- 14: where

    private static void where(int n) {
        whereOfNone(n);
        whereStateComesFirst(n);
        whereOfRefusedOnes(n);
        whereOfNoSide(n);
    }

    private static void whereOfNone(int n) {
        for (int side : new int[] {0, 1}) {
            due.refused(() -> Reading.ofLength(n), "where(" + side + ") of none", x -> x.where(side), BitStreams.STATE);
        }
    }

    /** STATE is told ahead of OUTSIDE here. */
    private static void whereStateComesFirst(int n) {
        for (int no : Reading.beyond(0, 1)) {
            due.refused(() -> Reading.ofLength(n), "where(" + no + ") of none", x -> x.where(no), BitStreams.STATE);
        }
    }

    private static void whereOfRefusedOnes(int n) {
        BitStreams x = Reading.ofLength(n);
        x.miss(4, 0, 0, 0);
        x.miss(0, 0, 0, 64);
        due.is("where(0), all refused", x.where(0), BitStreams.STATE);
        due.is("where(1), all refused", x.where(1), BitStreams.STATE);
        x.miss(0, 0, 0, 0);
        x.miss(0, 0, 4, 0);
        due.is("where(0), the latest refused", x.where(0), n / 2);
        due.is("where(1), the latest refused", x.where(1), n / 2);
    }

    private static void whereOfNoSide(int n) {
        for (int no : Reading.beyond(0, 1)) {
            due.refused(() -> Reading.used(n), "where(" + no + ")", x -> x.where(no), BitStreams.OUTSIDE);
        }
    }

    private static void whereIs(int gate, int s, int u, int k, int miss, int v, int w) {
        BitStreams x = new BitStreams();
        String call = "miss(" + gate + ", " + s + ", " + u + ", " + k + ")";
        due.is(call, x.miss(gate, s, u, k), miss);
        due.is(call + ": the least v", x.where(0), v);
        due.is(call + ": then the least w", x.where(1), w);
    }

    private static void whereOfSeveral() {
        // (1, 7), (3, 5), (5, 3), (7, 1): the least v goes ahead of the least w.
        whereIs(0, 0, 2, 0, 7, 1, 7);
        // (6, 3), (6, 7).
        whereIs(0, 0, 2, 2, 6, 6, 3);
        // (1, 2), (5, 2).
        whereIs(0, 2, 0, 2, 6, 1, 2);
        // (2, 1), (2, 5), (6, 3), (6, 7).
        whereIs(3, 1, 0, 4, 12, 2, 1);
    }
}
