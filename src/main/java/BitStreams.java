/**
 * Numbers as streams of bits. What each call promises stands in the project's document; the names here are its
 * names.
 */
public final class BitStreams {
    public static final int NONE = -1, UNKNOWN = -101, OUTSIDE = -102, STATE = -103;

    private static final int TOGETHER_UNKNOWN = -100000;
    private static final int AT_OUTSIDE = -1000000000;

    private static final int STREAMS = 12;
    private static final int FIRST_LENGTH = 8;
    private static final int MOST_LENGTH = 64;
    private static final int MOST_LATER = 64;
    private static final int MOST_SHIFT = 63;
    private static final int MOST_MISSES = 60;
    private static final int MOST_STATES = 8;
    private static final int MOST_DEGREE = 4;
    private static final int MOST_PARTS = 10;
    private static final int MOST_SCALE = 1000;
    private static final int MOST_NUMBER = 1000;

    private static final int RAMP = 0, TURNED = 1, SPREAD = 2, REGISTER = 3;
    private static final int AND = 0, OR = 1, UNLIKE = 2, LIKE = 3, ONE_WITHOUT = 4, MIX = 5, MOST = 6;
    private static final int IN_BOTH = 0, IN_FIRST = 1, IN_SECOND = 2, IN_NONE = 3;

    private final Rows rows;
    private final Form form;
    private final long[] streams;
    private final long[] firstRows;
    private final long[] secondRows;
    private final long[] parts;
    private int machineState;
    private int misses;
    private int missV;
    private int missW;

    public BitStreams() {
        rows = new Rows();
        form = new Form();
        streams = new long[STREAMS];
        // Room for what miss() and make() look up, made once: no call makes an object.
        firstRows = new long[MOST_LENGTH + 1];
        secondRows = new long[MOST_LENGTH + 1];
        parts = new long[MOST_PARTS + 1];
        machineState = NONE;
        misses = 0;
        missV = 0;
        missW = 0;
    }

    // ---- streams

    public int length(int n) {
        if (n != 8 && n != 16 && n != 32 && n != 64) {
            return OUTSIDE;
        }
        int before = rows.length;
        rows.setLength(n);
        for (int t = 0; t < STREAMS; t++) {
            streams[t] = 0L;
        }
        return before;
    }

    public int source(int t, int source, int v) {
        if (!isStream(t)) {
            return UNKNOWN;
        }
        if (!isSource(source) || !isValue(v)) {
            return OUTSIDE;
        }
        return setStream(t, rows.ofSource(source, v));
    }

    public int put(int t, int i, boolean is) {
        if (!isStream(t) || !isBit(i)) {
            return UNKNOWN;
        }
        int before = bitOf(streams[t], i);
        long place = 1L << i;
        streams[t] = is ? streams[t] | place : streams[t] & ~place;
        return before;
    }

    public int bit(int t, int i) {
        if (!isStream(t) || !isBit(i)) {
            return UNKNOWN;
        }
        return bitOf(streams[t], i);
    }

    public int ones(int t) {
        if (!isStream(t)) {
            return UNKNOWN;
        }
        return Long.bitCount(streams[t]);
    }

    public int gate(int gate, int a, int b, int c, int t) {
        if (!isWithin(gate, AND, MOST)) {
            return OUTSIDE;
        }
        if (!isStream(t) || !isStream(a) || !isStream(b)) {
            return UNKNOWN;
        }
        if (gate != MIX && gate != MOST) {
            return setStream(t, gated(gate, streams[a], streams[b], 0L));
        }
        if (!isStream(c)) {
            return UNKNOWN;
        }
        return setStream(t, gated(gate, streams[a], streams[b], streams[c]));
    }

    public int not(int a, int t) {
        if (!isStream(a) || !isStream(t)) {
            return UNKNOWN;
        }
        return setStream(t, ~streams[a]);
    }

    public int later(int a, int k, int t) {
        if (!isStream(a) || !isStream(t)) {
            return UNKNOWN;
        }
        if (!isWithin(k, -MOST_LATER, MOST_LATER)) {
            return OUTSIDE;
        }
        return setStream(t, rows.shifted(streams[a], -k));
    }

    public int flip(int t, long bits, int n) {
        if (!isStream(t)) {
            return UNKNOWN;
        }
        if (!isWithin(n, 0, rows.length)) {
            return OUTSIDE;
        }
        long changed = bits & lowBits(n);
        streams[t] ^= changed;
        return Long.bitCount(changed);
    }

    // ---- how they hang together

    public int both(int a, int b, int sort) {
        if (!isStream(a) || !isStream(b)) {
            return UNKNOWN;
        }
        if (!isWithin(sort, IN_BOTH, IN_NONE)) {
            return OUTSIDE;
        }
        return onesOfSort(streams[a], streams[b], sort);
    }

    public int together(int a, int b) {
        if (!isStream(a) || !isStream(b)) {
            return TOGETHER_UNKNOWN;
        }
        int p = onesOfSort(streams[a], streams[b], IN_BOTH);
        int q = onesOfSort(streams[a], streams[b], IN_FIRST);
        int r = onesOfSort(streams[a], streams[b], IN_SECOND);
        int s = onesOfSort(streams[a], streams[b], IN_NONE);
        int above = p * s - q * r;
        int product = (p + q) * (p + r);
        int below = above > 0
                ? rows.length * Math.min(p + q, p + r) - product
                : product - rows.length * Math.max(p - s, 0);
        if (above == 0 || below == 0) {
            return 0;
        }
        return 1000 * above / below;
    }

    public int miss(int gate, int s, int u, int k) {
        if (!isWithin(gate, AND, LIKE) || !isSource(s) || !isSource(u) || !isWithin(k, 0, MOST_SHIFT)) {
            return OUTSIDE;
        }
        if (misses >= MOST_MISSES) {
            return STATE;
        }
        misses++;
        for (int v = 0; v <= rows.length; v++) {
            firstRows[v] = rows.ofSource(s, v);
            secondRows[v] = rows.shifted(rows.ofSource(u, v), k);
        }
        return greatestMiss(gate);
    }

    public int where(int side) {
        if (misses == 0) {
            return STATE;
        }
        if (!isWithin(side, 0, 1)) {
            return OUTSIDE;
        }
        return side == 0 ? missV : missW;
    }

    // ---- machines

    public int machine(int a, int k, int t) {
        if (!isStream(a) || !isStream(t)) {
            return UNKNOWN;
        }
        if (!isMachine(k)) {
            return OUTSIDE;
        }
        return setStream(t, ranThrough(streams[a], k));
    }

    public int state() {
        return machineState;
    }

    public long ever(int k, int v, int part) {
        if (!isMachine(k) || !isValue(v) || !isWithin(part, 0, 1)) {
            return OUTSIDE;
        }
        long upper = 0L;
        long all = 0L;
        for (int j = 0; j < k; j++) {
            long weight = power(v, j) * power(rows.length - v, k - 1 - j);
            all += weight;
            if (isUpper(j, k)) {
                upper += weight;
            }
        }
        return inLowestTerms(upper, all, part);
    }

    // ---- forms

    public int degree(int n, int scale) {
        if (!isWithin(n, 0, MOST_DEGREE) || !isWithin(scale, 1, MOST_SCALE)) {
            return OUTSIDE;
        }
        form.setDegree(n, scale);
        return n;
    }

    public int term(int i, int v) {
        if (!isWithin(i, 0, form.degree)) {
            return UNKNOWN;
        }
        if (!isWithin(v, -MOST_NUMBER, MOST_NUMBER)) {
            return OUTSIDE;
        }
        int before = form.numbers[i];
        form.numbers[i] = v;
        return before;
    }

    public long part(int m, int j, int part) {
        if (!isWithin(m, form.degree, MOST_PARTS) || !isWithin(part, 0, 1)) {
            return OUTSIDE;
        }
        if (!isWithin(j, 0, m)) {
            return UNKNOWN;
        }
        return inLowestTerms(form.partAbove(m, j), form.partBelow(m), part);
    }

    public int least() {
        for (int m = form.degree; m <= MOST_PARTS; m++) {
            if (form.mayBeMade(m)) {
                return m;
            }
        }
        return NONE;
    }

    public int at(int v) {
        if (!isValue(v)) {
            return AT_OUTSIDE;
        }
        return form.thousandthsAt(v, rows.length);
    }

    public int make(int t, int source, int v, int m) {
        if (!isStream(t)) {
            return UNKNOWN;
        }
        if (!isSource(source) || !isValue(v) || !isWithin(m, form.degree, MOST_PARTS)) {
            return OUTSIDE;
        }
        if (!form.mayBeMade(m)) {
            return STATE;
        }
        for (int j = 0; j <= m; j++) {
            parts[j] = form.partAbove(m, j);
        }
        return setStream(t, formed(rows.ofSource(source, v), m));
    }

    // ---- what is told

    public int count(int what) {
        switch (what) {
            case 0:
                return rows.length;
            case 1:
                return form.degree;
            case 2:
                return form.scale;
            case 3:
                return misses;
            default:
                return OUTSIDE;
        }
    }

    public long digest() {
        long h = 31L * 157L + rows.length;
        for (int t = 0; t < STREAMS; t++) {
            h = 31L * h + Long.bitCount(streams[t]);
            h = 31L * h + streams[t];
        }
        h = 31L * h + machineState;
        h = 31L * h + form.degree;
        h = 31L * h + form.scale;
        for (int i = 0; i <= MOST_DEGREE; i++) {
            h = 31L * h + form.numbers[i];
        }
        return 31L * h + misses;
    }

    // ---- what arguments may be

    private static boolean isWithin(int n, int least, int most) {
        return least <= n && n <= most;
    }

    private static boolean isStream(int t) {
        return isWithin(t, 0, STREAMS - 1);
    }

    private static boolean isSource(int source) {
        return isWithin(source, RAMP, REGISTER);
    }

    private static boolean isMachine(int k) {
        return isWithin(k, 2, MOST_STATES) && k % 2 == 0;
    }

    private boolean isBit(int i) {
        return isWithin(i, 0, rows.length - 1);
    }

    private boolean isValue(int v) {
        return isWithin(v, 0, rows.length);
    }

    // ---- bits

    private static int bitOf(long row, int i) {
        return (int) ((row >>> i) & 1L);
    }

    private static long lowBits(int n) {
        // A long shifted by 64 would be shifted by 0.
        return n >= 64 ? -1L : (1L << n) - 1L;
    }

    /** The only way by which whole rows come into streams, so that bits behind LENGTH are 0 always. */
    private int setStream(int t, long row) {
        streams[t] = row & lowBits(rows.length);
        return Long.bitCount(streams[t]);
    }

    private static long gated(int gate, long a, long b, long c) {
        switch (gate) {
            case AND:
                return a & b;
            case OR:
                return a | b;
            case UNLIKE:
                return a ^ b;
            case LIKE:
                return ~(a ^ b);
            case ONE_WITHOUT:
                return a & ~b;
            case MIX:
                return (b & c) | (a & ~c);
            default:
                return (a & b) | (a & c) | (b & c);
        }
    }

    private int onesOfSort(long a, long b, int sort) {
        long wantedOfA = sort == IN_BOTH || sort == IN_FIRST ? a : ~a;
        long wantedOfB = sort == IN_BOTH || sort == IN_SECOND ? b : ~b;
        return Long.bitCount(wantedOfA & wantedOfB & lowBits(rows.length));
    }

    // ---- the miss

    /** Goes up by v, then by w, and takes the greater alone, so that of several the least v and w are kept. */
    private int greatestMiss(int gate) {
        int length = rows.length;
        long inLength = lowBits(length);
        int greatest = -1;
        for (int v = 0; v <= length; v++) {
            for (int w = 0; w <= length; w++) {
                long row = gated(gate, firstRows[v], secondRows[w], 0L) & inLength;
                int difference = Math.abs(Long.bitCount(row) * length - dueOnes(gate, v, w));
                if (difference > greatest) {
                    greatest = difference;
                    missV = v;
                    missW = w;
                }
            }
        }
        return greatest;
    }

    /** What ONES should be, times LENGTH. */
    private int dueOnes(int gate, int v, int w) {
        int length = rows.length;
        switch (gate) {
            case AND:
                return v * w;
            case OR:
                return length * (v + w) - v * w;
            case UNLIKE:
                return length * (v + w) - 2 * v * w;
            default:
                return length * length - (length * (v + w) - 2 * v * w);
        }
    }

    // ---- the machine

    private static boolean isUpper(int state, int k) {
        return state >= k / 2;
    }

    private long ranThrough(long row, int k) {
        int now = k / 2 - 1;
        long own = 0L;
        for (int i = 0; i < rows.length; i++) {
            now = bitOf(row, i) == 1 ? Math.min(now + 1, k - 1) : Math.max(now - 1, 0);
            if (isUpper(now, k)) {
                own |= 1L << i;
            }
        }
        machineState = now;
        return own;
    }

    // ---- the form's stream

    /** Reads the parts of degree m that stand in their row, above partBelow(m). */
    private long formed(long row, int m) {
        long below = form.partBelow(m);
        long made = 0L;
        for (int i = 0; i < rows.length; i++) {
            int j = 0;
            for (int shift = 0; shift < m; shift++) {
                j += bitOf(row, rows.round(i + shift));
            }
            if (parts[j] * rows.length > rows.turned(i) * below) {
                made |= 1L << i;
            }
        }
        return made;
    }

    // ---- numbers

    private static long power(long base, int exponent) {
        long product = 1L;
        for (int i = 0; i < exponent; i++) {
            product *= base;
        }
        return product;
    }

    /** Below is above 0. */
    private static long inLowestTerms(long above, long below, int part) {
        long common = commonDivisor(Math.abs(above), below);
        return part == 0 ? above / common : below / common;
    }

    /** At least 1, so that it can always divide. */
    private static long commonDivisor(long a, long b) {
        // Two longs are through after 91 steps at most.
        for (int step = 0; step < 100 && b != 0L; step++) {
            long rest = a % b;
            a = b;
            b = rest;
        }
        return Math.max(a, 1L);
    }

    /** Rows of LENGTH bits, each held in a long whose bit i is the row's bit i; bits behind LENGTH are 0. */
    private static final class Rows {
        private int length;
        private int figures;

        private Rows() {
            length = FIRST_LENGTH;
            figures = Integer.bitCount(FIRST_LENGTH - 1);
        }

        /** LENGTH is a power of two, so that a mask and a shift can stand for division by it. */
        private void setLength(int n) {
            length = n;
            figures = Integer.bitCount(n - 1);
        }

        private int round(int i) {
            return i & (length - 1);
        }

        private int turned(int i) {
            int backward = 0;
            for (int figure = 0; figure < figures; figure++) {
                backward = (backward << 1) | ((i >> figure) & 1);
            }
            return backward;
        }

        /** Bit i is the row's bit i and k, round. */
        private long shifted(long row, int k) {
            int by = round(k);
            return ((row >>> by) | (row << (length - by))) & lowBits(length);
        }

        private long ofSource(int source, int v) {
            switch (source) {
                case RAMP:
                    return lowBits(v);
                case TURNED:
                    return turnedRow(v);
                case SPREAD:
                    return spreadRow(v);
                default:
                    return registerRow(v);
            }
        }

        private long turnedRow(int v) {
            long row = 0L;
            // Turning round twice changes nothing: the bits that are 1 are just those numbers below v, turned.
            for (int i = 0; i < v; i++) {
                row |= 1L << turned(i);
            }
            return row;
        }

        private long spreadRow(int v) {
            long row = 0L;
            for (int i = 0; i < length; i++) {
                if ((v * (i + 1)) >> figures > (v * i) >> figures) {
                    row |= 1L << i;
                }
            }
            return row;
        }

        private long registerRow(int v) {
            int taps = tapsOfLength();
            int r = 1;
            long row = 0L;
            for (int i = 0; i < length - 1; i++) {
                if (r <= v) {
                    row |= 1L << i;
                }
                r = (r & 1) == 1 ? (r >> 1) ^ taps : r >> 1;
            }
            // The register has no 0: LENGTH stands for it at the last bit.
            return length <= v ? row | (1L << (length - 1)) : row;
        }

        private int tapsOfLength() {
            switch (length) {
                case 8:
                    return 6;
                case 16:
                    return 12;
                case 32:
                    return 20;
                default:
                    return 48;
            }
        }
    }

    /** The sum of numbers[i] x to the i, by scale; the numbers behind the degree are 0. */
    private static final class Form {
        private final int[] numbers;
        private int degree;
        private int scale;

        private Form() {
            numbers = new int[MOST_DEGREE + 1];
            degree = 0;
            scale = 1;
        }

        private void setDegree(int n, int newScale) {
            degree = n;
            scale = newScale;
            for (int i = n + 1; i <= MOST_DEGREE; i++) {
                numbers[i] = 0;
            }
        }

        /** What stands below all PARTS of degree m (the degree to 10), not yet in lowest terms: 1 at least. */
        private long partBelow(int m) {
            return scale * waysBut(m, NONE);
        }

        /** What stands above partBelow(m) in the j-th PART. */
        private long partAbove(int m, int j) {
            long above = 0L;
            for (int i = 0; i <= degree && i <= j; i++) {
                above += ways(j, i) * numbers[i] * waysBut(m, i);
            }
            return above;
        }

        private boolean mayBeMade(int m) {
            long below = partBelow(m);
            for (int j = 0; j <= m; j++) {
                long above = partAbove(m, j);
                if (above < 0L || above > below) {
                    return false;
                }
            }
            return true;
        }

        private int thousandthsAt(int v, int length) {
            long above = 0L;
            for (int i = 0; i <= degree; i++) {
                above += numbers[i] * power(v, i) * power(length, degree - i);
            }
            long below = Math.max(scale * power(length, degree), 1L);
            return (int) Math.floorDiv(1000L * above, below);
        }

        /** The product of C(m, i) over all i up to the degree but one: some eleven millions at most. */
        private long waysBut(int m, int leftOut) {
            long product = 1L;
            for (int i = 0; i <= degree; i++) {
                if (i != leftOut) {
                    product *= ways(m, i);
                }
            }
            return product;
        }

        /** C(from, chosen). */
        private static long ways(int from, int chosen) {
            long ways = 1L;
            for (int i = 1; i <= chosen; i++) {
                ways = ways * (from - chosen + i) / i;
            }
            return ways;
        }
    }
}
