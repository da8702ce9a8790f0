/** Promises 1 to 10: a new object, length, source, put, bit, ones, gate, not, later, flip. */
public final class StreamsTest {
    private static final Due due = new Due("streams");

    public static void main(String[] args) {
        aNewObject();
        length();
        sourcesByHand();
        sourcesOfEachLength();
        sourceRefused();
        putAndBitAndOnes();
        gates();
        gateRefused();
        not();
        later();
        flip();
        due.end();
    }

    private static void aNewObject() {
        BitStreams x = new BitStreams();
        due.is("new: count(0)", x.count(0), 8);
        for (int t = 0; t < Reading.STREAMS; t++) {
            due.is("new: bits of " + t, Reading.bits(x, t), 0);
            due.is("new: ones " + t, x.ones(t), 0);
        }
        due.is("new: degree", x.count(1), 0);
        due.is("new: scale", x.count(2), 1);
        due.is("new: misses", x.count(3), 0);
        due.is("new: at", x.at(8), 0);
        due.is("new: term", x.term(0, 0), 0);
        due.is("new: state", x.state(), BitStreams.NONE);
        due.is("new: where", x.where(0), BitStreams.STATE);
        due.is("NONE", BitStreams.NONE, -1);
        due.is("UNKNOWN", BitStreams.UNKNOWN, -101);
        due.is("OUTSIDE", BitStreams.OUTSIDE, -102);
        due.is("STATE", BitStreams.STATE, -103);
    }

    private static void length() {
        BitStreams x = new BitStreams();
        int before = 8;
        for (int n : new int[] {16, 32, 64, 8, 8, 64}) {
            due.is("length(" + n + ")", x.length(n), before);
            due.is("count(0)", x.count(0), n);
            before = n;
            for (int t = 0; t < Reading.STREAMS; t++) {
                due.is("bits behind length", Reading.bits(x, t), 0);
                x.not(t, t);
                due.is("all ones", x.ones(t), n);
            }
        }
        due.is("the same length", x.length(64), 64);
        due.is("it clears too", x.ones(11), 0);

        x.source(3, 0, 5);
        x.machine(3, 4, 4);
        x.degree(2, 7);
        x.term(2, 9);
        x.miss(0, 0, 0, 0);
        int state = x.state();
        x.length(16);
        due.is("state stays", x.state(), state);
        due.is("degree stays", x.count(1), 2);
        due.is("scale stays", x.count(2), 7);
        due.is("number stays", x.term(2, 9), 9);
        due.is("misses stay", x.count(3), 1);
        due.is("where stays", x.where(0), 32);
        x.source(5, 1, 9);
        for (int n : new int[] {0, 1, 2, 4, 7, 9, 24, 63, 65, 128, -8, Integer.MIN_VALUE, Integer.MAX_VALUE}) {
            due.refused(x, "length(" + n + ")", () -> x.length(n), BitStreams.OUTSIDE);
        }
    }

    private static void sourceIs(BitStreams x, int source, int v, long want) {
        x.not(2, 2);
        due.is("source(2, " + source + ", " + v + ")", x.source(2, source, v), Long.bitCount(want));
        due.is("bits of source " + source + ", " + v, Reading.bits(x, 2), want);
    }

    private static void sourcesByHand() {
        BitStreams x = new BitStreams();
        sourceIs(x, 0, 3, 0b00000111);
        sourceIs(x, 1, 3, 0b00010101);
        sourceIs(x, 2, 3, 0b10100100);
        sourceIs(x, 3, 3, 0b01000101);
        sourceIs(x, 3, 7, 0b01111111);
        for (int source = 0; source < 4; source++) {
            sourceIs(x, source, 0, 0);
            sourceIs(x, source, 8, 0xff);
        }
        x.length(16);
        sourceIs(x, 1, 3, 1 | 1 << 8 | 1 << 4);
        sourceIs(x, 2, 2, 1 << 7 | 1 << 15);
        sourceIs(x, 3, 2, 1 | 1 << 14);
        sourceIs(x, 3, 4, 1 | 1 << 14 | 1 << 3 | 1 << 13);
        x.length(64);
        sourceIs(x, 0, 64, -1L);
        sourceIs(x, 1, 2, 1L | 1L << 32);
        sourceIs(x, 2, 1, Long.MIN_VALUE);
        sourceIs(x, 3, 63, Long.MAX_VALUE);
        sourceIs(x, 3, 64, -1L);
    }

    private static void sourcesOfEachLength() {
        for (int n : Reading.LENGTHS) {
            BitStreams x = new BitStreams();
            x.length(n);
            for (int source = 0; source < 4; source++) {
                for (int v = 0; v <= n; v++) {
                    due.is("ones of source " + source, x.source(1, source, v), v);
                    due.is("ones of source " + source, x.ones(1), v);
                }
            }
            registerGoesRound(x, n);
        }
    }

    /** By v and v less 1 the bit shows where the register's number is v: it must follow from the one before. */
    private static void registerGoesRound(BitStreams x, int n) {
        int taps = n == 8 ? 6 : n == 16 ? 12 : n == 32 ? 20 : 48;
        int r = 1;
        for (int i = 0; i < n - 1; i++) {
            x.source(0, 3, r - 1);
            due.is("register's bit below", x.bit(0, i), 0);
            x.source(0, 3, r);
            due.is("register's bit", x.bit(0, i), 1);
            r = r % 2 == 1 ? r / 2 ^ taps : r / 2;
        }
        due.is("register is 1 again", r, 1);
    }

    private static void sourceRefused() {
        BitStreams x = new BitStreams();
        x.source(2, 1, 5);
        for (int t : Reading.NO_STREAMS) {
            due.refused(x, "source, no stream", () -> x.source(t, 0, 1), BitStreams.UNKNOWN);
            due.refused(x, "source, all wrong", () -> x.source(t, 4, 9), BitStreams.UNKNOWN);
        }
        for (int bad : new int[] {-1, 4, Integer.MIN_VALUE, Integer.MAX_VALUE}) {
            due.refused(x, "source " + bad, () -> x.source(2, bad, 1), BitStreams.OUTSIDE);
        }
        for (int bad : new int[] {-1, 9, Integer.MIN_VALUE, Integer.MAX_VALUE}) {
            for (int source = 0; source < 4; source++) {
                int s = source;
                due.refused(x, "v " + bad, () -> x.source(2, s, bad), BitStreams.OUTSIDE);
            }
        }
        x.length(16);
        due.is("v 9 of 16", x.source(2, 3, 9), 9);
    }

    private static void putAndBitAndOnes() {
        for (int n : Reading.LENGTHS) {
            BitStreams x = new BitStreams();
            x.length(n);
            for (int t = 0; t < Reading.STREAMS; t++) {
                due.is("put first", x.put(t, n - 1, true), 0);
                due.is("put again", x.put(t, n - 1, true), 1);
                due.is("put other", x.put(t, t % n, true), t % n == n - 1 ? 1 : 0);
                due.is("bit", x.bit(t, n - 1), 1);
                due.is("bits", Reading.bits(x, t), 1L << n - 1 | 1L << t % n);
                due.is("put false", x.put(t, n - 1, false), 1);
                due.is("put false again", x.put(t, n - 1, false), 0);
                due.is("ones", x.ones(t), t % n == n - 1 ? 0 : 1);
            }
            x.source(3, 0, 4);
            for (int i : new int[] {-1, n, 64, Integer.MIN_VALUE, Integer.MAX_VALUE}) {
                due.refused(x, "put(3, " + i + ")", () -> x.put(3, i, true), BitStreams.UNKNOWN);
                due.refused(x, "put(3, " + i + ")", () -> x.put(3, i, false), BitStreams.UNKNOWN);
                due.refused(x, "bit(3, " + i + ")", () -> x.bit(3, i), BitStreams.UNKNOWN);
            }
            for (int t : Reading.NO_STREAMS) {
                due.refused(x, "put(" + t + ", 0)", () -> x.put(t, 0, true), BitStreams.UNKNOWN);
                due.refused(x, "bit(" + t + ", 0)", () -> x.bit(t, 0), BitStreams.UNKNOWN);
                due.refused(x, "ones(" + t + ")", () -> x.ones(t), BitStreams.UNKNOWN);
            }
        }
    }

    private static void gates() {
        long a = 0b01010101;
        long b = 0b00110011;
        long c = 0b00001111;
        long[] wanted = {
            0b00010001, 0b01110111, 0b01100110, 0b10011001, 0b01000100, 0b01010011, 0b00010111
        };
        BitStreams x = new BitStreams();
        for (int gate = 0; gate < 7; gate++) {
            Reading.write(x, 0, a);
            Reading.write(x, 1, b);
            Reading.write(x, 2, c);
            long want = wanted[gate];
            due.is("gate " + gate, x.gate(gate, 0, 1, 2, 11), Long.bitCount(want));
            due.is("bits of gate " + gate, Reading.bits(x, 11), want);
            for (int t = 0; t < 3; t++) {
                Reading.write(x, 0, a);
                Reading.write(x, 1, b);
                Reading.write(x, 2, c);
                x.gate(gate, 0, 1, 2, t);
                due.is("gate " + gate + " onto its own", Reading.bits(x, t), want);
            }
        }
        x.length(64);
        due.is("like of none", x.gate(3, 4, 5, -1, 6), 64);
        x.length(16);
        due.is("like of none", x.gate(3, 4, 4, -1, 4), 16);
    }

    private static void gateRefused() {
        BitStreams x = new BitStreams();
        x.source(0, 0, 3);
        x.source(1, 1, 5);
        for (int bad : new int[] {-1, 7, Integer.MIN_VALUE, Integer.MAX_VALUE}) {
            due.refused(x, "gate " + bad, () -> x.gate(bad, 0, 1, 2, 3), BitStreams.OUTSIDE);
            due.refused(x, "gate, all wrong", () -> x.gate(bad, -1, 12, 12, 12), BitStreams.OUTSIDE);
        }
        for (int no : Reading.NO_STREAMS) {
            for (int gate = 0; gate < 7; gate++) {
                int g = gate;
                due.refused(x, "gate, a", () -> x.gate(g, no, 1, 2, 3), BitStreams.UNKNOWN);
                due.refused(x, "gate, b", () -> x.gate(g, 0, no, 2, 3), BitStreams.UNKNOWN);
                due.refused(x, "gate, t", () -> x.gate(g, 0, 1, 2, no), BitStreams.UNKNOWN);
            }
            due.refused(x, "mix, c", () -> x.gate(5, 0, 1, no, 3), BitStreams.UNKNOWN);
            due.refused(x, "most, c", () -> x.gate(6, 0, 1, no, 3), BitStreams.UNKNOWN);
            for (int gate = 0; gate < 5; gate++) {
                due.holds("that c is not looked at", x.gate(gate, 0, 1, no, 3) >= 0);
            }
        }
    }

    private static void not() {
        for (int n : Reading.LENGTHS) {
            BitStreams x = new BitStreams();
            x.length(n);
            x.source(0, 0, 3);
            long all = n == 64 ? -1L : (1L << n) - 1;
            due.is("not", x.not(0, 1), n - 3);
            due.is("bits of not", Reading.bits(x, 1), all ^ 7);
            due.is("not of itself", x.not(0, 0), n - 3);
            due.is("not of itself again", x.not(0, 0), 3);
            due.is("bits again", Reading.bits(x, 0), 7);
            for (int no : Reading.NO_STREAMS) {
                due.refused(x, "not, a", () -> x.not(no, 1), BitStreams.UNKNOWN);
                due.refused(x, "not, t", () -> x.not(1, no), BitStreams.UNKNOWN);
            }
        }
    }

    private static void later() {
        BitStreams x = new BitStreams();
        Reading.write(x, 0, 0b00000011);
        due.is("later by 3", x.later(0, 3, 1), 2);
        due.is("bits later by 3", Reading.bits(x, 1), 0b00011000);
        x.later(0, -1, 1);
        due.is("bits later by -1", Reading.bits(x, 1), 0b10000001);
        x.later(0, 7, 0);
        due.is("bits later, its own", Reading.bits(x, 0), 0b10000001);
        for (int n : Reading.LENGTHS) {
            x.length(n);
            Reading.write(x, 0, 0x8003L | 5L << n - 5);
            for (int k = -64; k <= 64; k++) {
                due.is("ones of later", x.later(0, k, 2), x.ones(0));
                for (int i = 0; i < n; i++) {
                    due.is("later(" + k + ")", x.bit(2, Math.floorMod(i + k, n)), x.bit(0, i));
                }
            }
            for (int k : new int[] {-65, 65, Integer.MIN_VALUE, Integer.MAX_VALUE}) {
                due.refused(x, "later by " + k, () -> x.later(0, k, 2), BitStreams.OUTSIDE);
                due.refused(x, "later, all wrong", () -> x.later(12, k, 2), BitStreams.UNKNOWN);
                due.refused(x, "later, all wrong", () -> x.later(0, k, -1), BitStreams.UNKNOWN);
            }
            for (int no : Reading.NO_STREAMS) {
                due.refused(x, "later, a", () -> x.later(no, 1, 2), BitStreams.UNKNOWN);
                due.refused(x, "later, t", () -> x.later(0, 1, no), BitStreams.UNKNOWN);
            }
        }
    }

    private static void flip() {
        BitStreams x = new BitStreams();
        Reading.write(x, 4, 0b00000110);
        due.is("flip, the first 3", x.flip(4, 0b1011, 3), 2);
        due.is("bits of flip", Reading.bits(x, 4), 0b00000101);
        due.is("flip none", x.flip(4, -1L, 0), 0);
        due.is("bits of flip none", Reading.bits(x, 4), 0b00000101);
        due.is("flip all", x.flip(4, -1L, 8), 8);
        due.is("bits of flip all", Reading.bits(x, 4), 0b11111010);
        for (int n : Reading.LENGTHS) {
            x.length(n);
            due.is("flip all of " + n, x.flip(5, -1L, n), n);
            due.is("ones", x.ones(5), n);
            due.is("flip the lowest", x.flip(5, Long.MIN_VALUE | 1L, n), n == 64 ? 2 : 1);
            due.is("flip but the last", x.flip(5, Long.MIN_VALUE | 1L, n - 1), 1);
            for (int bad : new int[] {-1, n + 1, Integer.MIN_VALUE, Integer.MAX_VALUE}) {
                due.refused(x, "flip, n " + bad, () -> x.flip(5, -1L, bad), BitStreams.OUTSIDE);
                due.refused(x, "flip, all wrong", () -> x.flip(12, -1L, bad), BitStreams.UNKNOWN);
            }
            for (int no : Reading.NO_STREAMS) {
                due.refused(x, "flip, t", () -> x.flip(no, -1L, 1), BitStreams.UNKNOWN);
            }
        }
    }
}
