/** Reads an object by calls that change nothing. */
final class Reading {
    static final int STREAMS = 12;
    static final int[] LENGTHS = {8, 16, 32, 64};
    static final int[] NO_STREAMS = {-1, 12, Integer.MIN_VALUE, Integer.MAX_VALUE};

    private Reading() {
    }

    /** A stream's bits as a long, by bit(). */
    static long bits(BitStreams x, int t) {
        long row = 0;
        for (int i = 0; i < x.count(0); i++) {
            row |= (long) x.bit(t, i) << i;
        }
        return row;
    }

    /** Makes a stream's bits those of a long, by put(). */
    static void write(BitStreams x, int t, long row) {
        for (int i = 0; i < x.count(0); i++) {
            x.put(t, i, (row >>> i & 1) == 1);
        }
    }

    static String all(BitStreams x) {
        StringBuilder text = new StringBuilder();
        for (int what = 0; what < 4; what++) {
            text.append(x.count(what)).append(' ');
        }
        for (int t = 0; t < STREAMS; t++) {
            text.append(bits(x, t)).append(' ');
        }
        for (int v = 0; v <= x.count(0); v++) {
            text.append(x.at(v)).append(' ');
        }
        text.append(x.where(0)).append(' ').append(x.where(1)).append(' ').append(x.state());
        return text.append(' ').append(x.digest()).toString();
    }
}
