/** Promises 1 to 10: a new object, length, source, put, bit, ones, gate, not, later, flip. */
public final class StreamsTest {
    private static final Due due = new Due("streams");

    public static void main(String[] args) {
        aNewObject();
        length();
        sourcesByHand();
        sourcesOfEachLength();
        putAndBitAndOnes();
        gates();
        not();
        later();
        flip();
        due.end();
    }

    private static void aNewObject() {
        BitStreams x = new BitStreams();
        due.is("new: count(0)", x.count(0), 8);
        for (int t = 0; t < Reading.STREAMS; t++) {
            due.row("new", x, t, 0);
        }
        due.is("new: degree", x.count(1), 0);
        due.is("new: scale", x.count(2), 1);
        due.is("new: misses", x.count(3), 0);
        due.is("new: at", x.at(8), 0);
        due.is("new: term", x.term(0, 0), 0);
        due.is("new: state", x.state(), BitStreams.NONE);
        due.is("new: where", x.where(0), BitStreams.STATE);
    }

    private static void length() {
        BitStreams x = new BitStreams();
        int before = 8;
        for (int n : new int[] {16, 32, 64, 8, 8, 64, 64}) {
            due.is("length(" + n + ")", x.length(n), before);
            due.is("count(0)", x.count(0), n);
            before = n;
            for (int t = 0; t < Reading.STREAMS; t++) {
                due.is("ones behind length", x.ones(t), 0);
                due.is("all ones", x.not(t, t), n);
            }
        }
    }

    private static void sourceIs(int n, int source, int v, long want) {
        BitStreams x = Reading.ofLength(n);
        x.not(2, 2);
        String call = "source(2, " + source + ", " + v + ") of " + n;
        due.is(call, x.source(2, source, v), Long.bitCount(want));
        due.row(call, x, 2, want);
    }

    private static void sourcesByHand() {
        sourceIs(8, 0, 3, 0b00000111);
        sourceIs(8, 1, 3, 0b00010101);
        sourceIs(8, 2, 3, 0b10100100);
        sourceIs(8, 3, 3, 0b01000101);
        sourceIs(8, 3, 7, 0b01111111);
        sourceIs(16, 1, 3, 1 | 1 << 8 | 1 << 4);
        sourceIs(16, 2, 2, 1 << 7 | 1 << 15);
        sourceIs(16, 3, 2, 1 | 1 << 14);
        sourceIs(16, 3, 4, 1 | 1 << 14 | 1 << 3 | 1 << 13);
        sourceIs(64, 0, 64, -1L);
        sourceIs(64, 1, 2, 1L | 1L << 32);
        sourceIs(64, 2, 1, Long.MIN_VALUE);
        sourceIs(64, 3, 63, Long.MAX_VALUE);
        sourceIs(64, 3, 64, -1L);
    }

    private static void sourcesOfEachLength() {
        for (int n : Reading.LENGTHS) {
            for (int source = 0; source < 4; source++) {
                BitStreams x = Reading.ofLength(n);
                for (int v = 0; v <= n; v++) {
                    due.is("ones of source " + source, x.source(1, source, v), v);
                    due.is("ones of source " + source, x.ones(1), v);
                }
            }
            registerGoesRound(n);
        }
    }

    /** By v and v less 1 the bit shows where the register's number is v: it must follow from the one before. */
    private static void registerGoesRound(int n) {
        BitStreams x = Reading.ofLength(n);
        int taps = n == 8 ? 6 : n == 16 ? 12 : n == 32 ? 20 : 48;
        int r = 1;
        for (int i = 0; i < n - 1; i++) {
            x.source(0, 3, r - 1);
            due.is("register's bit below", x.bit(0, i), 0);
            x.source(0, 3, r);
            due.is("register's bit", x.bit(0, i), 1);
            r = r % 2 == 1 ? r / 2 ^ taps : r / 2;
        }
        due.is("register is 1 again", r, 1);
    }

    private static void putAndBitAndOnes() {
        for (int n : Reading.LENGTHS) {
            for (int t = 0; t < Reading.STREAMS; t++) {
                BitStreams x = Reading.ofLength(n);
                int other = t % (n - 1);
                due.is("put first", x.put(t, n - 1, true), 0);
                due.is("put again", x.put(t, n - 1, true), 1);
                due.is("put other", x.put(t, other, true), 0);
                due.is("bit", x.bit(t, n - 1), 1);
                due.row("put", x, t, 1L << n - 1 | 1L << other);
                due.is("put false", x.put(t, n - 1, false), 1);
                due.is("put false again", x.put(t, n - 1, false), 0);
                due.is("ones", x.ones(t), 1);
                due.is("ones of another", x.ones((t + 1) % Reading.STREAMS), 0);
            }
        }
    }

    private static BitStreams withThree() {
        BitStreams x = new BitStreams();
        Reading.write(x, 0, 0b01010101);
        Reading.write(x, 1, 0b00110011);
        Reading.write(x, 2, 0b00001111);
        return x;
    }

    private static void gates() {
        long[] wanted = {
            0b00010001, 0b01110111, 0b01100110, 0b10011001, 0b01000100, 0b01010011, 0b00010111
        };
        for (int gate = 0; gate < 7; gate++) {
            long want = wanted[gate];
            // Also onto each of its own.
            for (int t : new int[] {11, 0, 1, 2}) {
                BitStreams x = withThree();
                due.is("gate " + gate + " onto " + t, x.gate(gate, 0, 1, 2, t), Long.bitCount(want));
                due.row("gate " + gate + " onto " + t, x, t, want);
            }
        }
    }

    private static void not() {
        for (int n : Reading.LENGTHS) {
            BitStreams x = Reading.ofLength(n);
            x.source(0, 0, 3);
            due.is("not", x.not(0, 1), n - 3);
            due.row("not", x, 1, Reading.full(n) ^ 7);
            due.is("not of itself", x.not(0, 0), n - 3);
            due.is("not of itself again", x.not(0, 0), 3);
            due.row("not twice", x, 0, 7);
        }
    }

    private static void later() {
        BitStreams x = new BitStreams();
        Reading.write(x, 0, 0b00000011);
        due.is("later by 3", x.later(0, 3, 1), 2);
        due.row("later by 3", x, 1, 0b00011000);
        x.later(0, -1, 1);
        due.row("later by -1", x, 1, 0b10000001);
        x.later(0, 7, 0);
        due.row("later, its own", x, 0, 0b10000001);
        for (int n : Reading.LENGTHS) {
            for (int k = -64; k <= 64; k++) {
                laterIsRound(n, k);
            }
        }
    }

    private static void laterIsRound(int n, int k) {
        BitStreams x = Reading.ofLength(n);
        Reading.write(x, 0, 0x8003L | 5L << n - 5);
        due.is("ones of later", x.later(0, k, 2), x.ones(0));
        for (int i = 0; i < n; i++) {
            due.is("later(" + k + ") of " + n, x.bit(2, Math.floorMod(i + k, n)), x.bit(0, i));
        }
    }

    private static void flip() {
        BitStreams x = new BitStreams();
        Reading.write(x, 4, 0b00000110);
        due.is("flip, the first 3", x.flip(4, 0b1011, 3), 2);
        due.row("flip", x, 4, 0b00000101);
        due.is("flip none", x.flip(4, -1L, 0), 0);
        due.row("flip none", x, 4, 0b00000101);
        due.is("flip all", x.flip(4, -1L, 8), 8);
        due.row("flip all", x, 4, 0b11111010);
    }
}
