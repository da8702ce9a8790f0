/** Promises 11 to 14: both, together, miss, where. */
public final class TogetherTest {
    private static final Due due = new Due("together");

    public static void main(String[] args) {
        both();
        together();
        missByHand();
        missAsTold();
        where();
        due.end();
    }

    private static void both() {
        for (int n : Reading.LENGTHS) {
            BitStreams x = Reading.ofLength(n);
            Reading.write(x, 0, 0b00001111);
            Reading.write(x, 1, 0b00111110);
            due.is("in both", x.both(0, 1, 0), 3);
            due.is("in a alone", x.both(0, 1, 1), 1);
            due.is("in b alone", x.both(0, 1, 2), 2);
            due.is("in none", x.both(0, 1, 3), n - 6);
            due.is("a stream and itself", x.both(1, 1, 0), 5);
            due.is("a stream and itself, in none", x.both(1, 1, 3), n - 5);
        }
    }

    private static void togetherIs(int n, long a, long b, int want) {
        BitStreams x = Reading.ofLength(n);
        Reading.write(x, 6, a);
        Reading.write(x, 7, b);
        String call = "together of " + Long.toBinaryString(a) + ", " + Long.toBinaryString(b);
        due.is(call, x.together(6, 7), want);
        due.is(call + ", changed over", x.together(7, 6), want);
    }

    private static void together() {
        togetherIs(8, 0b00001111, 0b00000011, 1000);
        togetherIs(8, 0b00001111, 0b11110000, -1000);
        togetherIs(8, 0b00001111, 0b00011101, 500);
        togetherIs(8, 0b00000111, 0b00001011, 466);
        togetherIs(8, 0b00001111, 0b00110001, -333);
        togetherIs(8, 0b00011111, 0b01100111, -111);
        togetherIs(8, 0b00001111, 0b00110011, 0);
        togetherIs(8, 0, 0b00110011, 0);
        togetherIs(8, 0xff, 0b00110011, 0);
        togetherIs(8, 0, 0, 0);
        togetherIs(8, 0xff, 0xff, 0);
        togetherIs(8, 1, 1, 1000);
        togetherIs(64, -1L << 32, -1L << 16, 1000);
        togetherIs(64, -1L << 32, -1L >>> 32, -1000);
        togetherIs(64, 0b110, 0b011, 483);
    }

    /** Two ramps hang together as far as can be: the greatest miss is in the middle. */
    private static void missByHand() {
        for (int n : Reading.LENGTHS) {
            BitStreams x = Reading.ofLength(n);
            int half = n / 2;
            for (int gate = 0; gate < 4; gate++) {
                due.is("miss of ramps, gate " + gate, x.miss(gate, 0, 0, 0), (gate < 2 ? 1 : 2) * half * half);
                due.is("its v", x.where(0), half);
                due.is("its w", x.where(1), half);
                due.is("how often", x.count(3), gate + 1);
            }
        }
        BitStreams x = new BitStreams();
        due.is("miss of a ramp and one turned", x.miss(0, 0, 1, 0), 9);
        due.is("its v", x.where(0), 3);
        due.is("its w", x.where(1), 5);
    }

    private static int dueTimesLength(int gate, int n, int v, int w) {
        int unlike = n * (v + w) - 2 * v * w;
        return gate == 0 ? v * w : gate == 1 ? n * (v + w) - v * w : gate == 2 ? unlike : n * n - unlike;
    }

    private static void missAsTold() {
        int[] shifts = {0, 1, 5, 8, 31, 63};
        for (int n : new int[] {8, 16}) {
            for (int gate = 0; gate < 4; gate++) {
                for (int sources = 0; sources < 16; sources++) {
                    missIs(n, gate, sources, shifts[(sources + gate) % shifts.length]);
                }
            }
        }
        missIs(64, 0, 1 * 4 + 3, 63);
        missIs(64, 3, 2 * 4 + 0, 17);
        missIs(32, 1, 3 * 4 + 1, 40);
    }

    /** By source, later and gate, which have tests of their own. */
    private static void missIs(int n, int gate, int sources, int k) {
        int greatest = -1;
        int atV = -1;
        int atW = -1;
        for (int v = 0; v <= n; v++) {
            BitStreams x = Reading.ofLength(n);
            x.source(0, sources / 4, v);
            for (int w = 0; w <= n; w++) {
                x.source(1, sources % 4, w);
                x.later(1, -k, 1);
                int got = Math.abs(x.gate(gate, 0, 1, 0, 2) * n - dueTimesLength(gate, n, v, w));
                if (got > greatest) {
                    greatest = got;
                    atV = v;
                    atW = w;
                }
            }
        }
        BitStreams x = Reading.used(n);
        long kept = x.digest();
        String call = "miss(" + gate + ", " + sources / 4 + ", " + sources % 4 + ", " + k + ") of " + n;
        due.is(call, x.miss(gate, sources / 4, sources % 4, k), greatest);
        due.is(call + ": its v", x.where(0), atV);
        due.is(call + ": its w", x.where(1), atW);
        due.is(call + ": it changes no more than how often", x.digest(), kept + 1);
    }

    private static void where() {
        BitStreams x = new BitStreams();
        due.is("where, none", x.where(0), BitStreams.STATE);
        x.miss(0, 0, 1, 0);
        due.is("where, v", x.where(0), 3);
        due.is("where, w", x.where(1), 5);
        x.miss(0, 0, 0, 0);
        due.is("where, the latest", x.where(1), 4);
    }
}
