import java.math.BigInteger;

/** The document once more, word by word and without a thought for speed: rows of booleans, fractions of any size. */
final class PlainModel {
    int length = 8;
    boolean[][] streams = new boolean[12][8];
    int state = -1;
    int degree = 0;
    int scale = 1;
    int[] a = new int[5];
    int misses = 0;
    int missV;
    int missW;

    int length(int n) {
        if (n != 8 && n != 16 && n != 32 && n != 64) {
            return -102;
        }
        int was = length;
        length = n;
        streams = new boolean[12][n];
        return was;
    }

    private boolean no(int t) {
        return t < 0 || t >= 12;
    }

    private int set(int t, boolean[] row) {
        streams[t] = row;
        return ones(row);
    }

    private static int ones(boolean[] row) {
        int count = 0;
        for (boolean is : row) {
            count += is ? 1 : 0;
        }
        return count;
    }

    private int turned(int i) {
        String figures = Integer.toBinaryString(i);
        while (figures.length() < Integer.toBinaryString(length - 1).length()) {
            figures = "0" + figures;
        }
        return Integer.parseInt(new StringBuilder(figures).reverse().toString(), 2);
    }

    private boolean[] row(int source, int v, int shift) {
        boolean[] row = new boolean[length];
        int taps = length == 8 ? 6 : length == 16 ? 12 : length == 32 ? 20 : 48;
        int r = 1;
        for (int i = 0; i < length; i++) {
            boolean is;
            if (source == 0) {
                is = i < v;
            } else if (source == 1) {
                is = turned(i) < v;
            } else if (source == 2) {
                is = v * (i + 1) / length > v * i / length;
            } else {
                is = i == length - 1 ? length <= v : r <= v;
            }
            row[i] = is;
            r = r % 2 == 1 ? r / 2 ^ taps : r / 2;
        }
        boolean[] behind = new boolean[length];
        for (int i = 0; i < length; i++) {
            behind[i] = row[(i + shift) % length];
        }
        return behind;
    }

    private boolean noSource(int source, int v) {
        return source < 0 || source > 3 || v < 0 || v > length;
    }

    int source(int t, int source, int v) {
        return no(t) ? -101 : noSource(source, v) ? -102 : set(t, row(source, v, 0));
    }

    int put(int t, int i, boolean is) {
        int was = bit(t, i);
        if (was != -101) {
            streams[t][i] = is;
        }
        return was;
    }

    int bit(int t, int i) {
        return no(t) || i < 0 || i >= length ? -101 : streams[t][i] ? 1 : 0;
    }

    int ones(int t) {
        return no(t) ? -101 : ones(streams[t]);
    }

    private boolean[] made(int gate, boolean[] p, boolean[] q, boolean[] r) {
        boolean[] row = new boolean[length];
        for (int i = 0; i < length; i++) {
            boolean x = p[i];
            boolean y = q[i];
            boolean z = r[i];
            int sum = (x ? 1 : 0) + (y ? 1 : 0) + (z ? 1 : 0);
            boolean[] answers = {x && y, x || y, x != y, x == y, x && !y, z ? y : x, sum >= 2};
            row[i] = answers[gate];
        }
        return row;
    }

    int gate(int gate, int p, int q, int r, int t) {
        if (gate < 0 || gate > 6) {
            return -102;
        }
        if (no(t) || no(p) || no(q) || gate > 4 && no(r)) {
            return -101;
        }
        return set(t, made(gate, streams[p], streams[q], gate > 4 ? streams[r] : streams[p]));
    }

    int not(int p, int t) {
        if (no(p) || no(t)) {
            return -101;
        }
        boolean[] row = new boolean[length];
        for (int i = 0; i < length; i++) {
            row[i] = !streams[p][i];
        }
        return set(t, row);
    }

    int later(int p, int k, int t) {
        if (no(p) || no(t)) {
            return -101;
        }
        if (k < -64 || k > 64) {
            return -102;
        }
        boolean[] row = new boolean[length];
        for (int i = 0; i < length; i++) {
            row[(i + k + 64) % length] = streams[p][i];
        }
        return set(t, row);
    }

    int flip(int t, long bits, int n) {
        if (no(t)) {
            return -101;
        }
        if (n < 0 || n > length) {
            return -102;
        }
        int changed = 0;
        for (int i = 0; i < n; i++) {
            if ((bits >> i) % 2 != 0) {
                streams[t][i] = !streams[t][i];
                changed++;
            }
        }
        return changed;
    }

    int both(int p, int q, int sort) {
        if (no(p) || no(q)) {
            return -101;
        }
        if (sort < 0 || sort > 3) {
            return -102;
        }
        int count = 0;
        for (int i = 0; i < length; i++) {
            int is = streams[p][i] ? streams[q][i] ? 0 : 1 : streams[q][i] ? 2 : 3;
            count += is == sort ? 1 : 0;
        }
        return count;
    }

    int together(int x, int y) {
        if (no(x) || no(y)) {
            return -100000;
        }
        long p = both(x, y, 0);
        long q = both(x, y, 1);
        long r = both(x, y, 2);
        long s = both(x, y, 3);
        if (p * s > q * r) {
            return (int) (1000 * (p * s - q * r) / (length * Math.min(p + q, p + r) - (p + q) * (p + r)));
        }
        if (p * s < q * r) {
            return (int) -(1000 * (q * r - p * s) / ((p + q) * (p + r) - length * Math.max(p - s, 0)));
        }
        return 0;
    }

    int miss(int gate, int s, int u, int k) {
        if (gate < 0 || gate > 3 || noSource(s, 0) || noSource(u, 0) || k < 0 || k > 63) {
            return -102;
        }
        if (misses == 60) {
            return -103;
        }
        misses++;
        boolean[][] second = new boolean[length + 1][];
        for (int w = 0; w <= length; w++) {
            second[w] = row(u, w, k);
        }
        int greatest = 0;
        for (int v = length; v >= 0; v--) {
            boolean[] first = row(s, v, 0);
            for (int w = length; w >= 0; w--) {
                int[] should = {
                    v * w, length * (v + w) - v * w, length * (v + w) - 2 * v * w,
                    length * length - (length * (v + w) - 2 * v * w)
                };
                int got = Math.abs(ones(made(gate, first, second[w], first)) * length - should[gate]);
                if (got >= greatest) {
                    greatest = got;
                    missV = v;
                    missW = w;
                }
            }
        }
        return greatest;
    }

    int where(int side) {
        return misses == 0 ? -103 : side == 0 ? missV : side == 1 ? missW : -102;
    }

    private boolean noMachine(int k) {
        return k != 2 && k != 4 && k != 6 && k != 8;
    }

    int machine(int p, int k, int t) {
        if (no(p) || no(t)) {
            return -101;
        }
        if (noMachine(k)) {
            return -102;
        }
        boolean[] row = new boolean[length];
        state = k / 2 - 1;
        for (int i = 0; i < length; i++) {
            if (streams[p][i] && state < k - 1) {
                state++;
            } else if (!streams[p][i] && state > 0) {
                state--;
            }
            row[i] = state >= k / 2;
        }
        return set(t, row);
    }

    private static BigInteger big(long n) {
        return BigInteger.valueOf(n);
    }

    private static long inLowest(BigInteger above, BigInteger below, int part) {
        BigInteger common = above.gcd(below);
        return (part == 0 ? above : below).divide(common).longValueExact();
    }

    long ever(int k, int v, int part) {
        if (noMachine(k) || v < 0 || v > length || part < 0 || part > 1) {
            return -102;
        }
        BigInteger upper = BigInteger.ZERO;
        BigInteger all = BigInteger.ZERO;
        for (int j = 0; j < k; j++) {
            BigInteger one = big(v).pow(j).multiply(big(length - v).pow(k - 1 - j));
            all = all.add(one);
            if (2 * j >= k) {
                upper = upper.add(one);
            }
        }
        return inLowest(upper, all, part);
    }

    int degree(int n, int newScale) {
        if (n < 0 || n > 4 || newScale < 1 || newScale > 1000) {
            return -102;
        }
        degree = n;
        scale = newScale;
        for (int i = n + 1; i < 5; i++) {
            a[i] = 0;
        }
        return n;
    }

    int term(int i, int v) {
        if (i < 0 || i > degree) {
            return -101;
        }
        if (v < -1000 || v > 1000) {
            return -102;
        }
        int was = a[i];
        a[i] = v;
        return was;
    }

    private static long choose(int n, int k) {
        return k < 0 || k > n ? 0 : k == 0 ? 1 : choose(n - 1, k - 1) + choose(n - 1, k);
    }

    /** Above and below, added up one fraction after the other. */
    private BigInteger[] partOf(int m, int j) {
        BigInteger above = BigInteger.ZERO;
        BigInteger below = BigInteger.ONE;
        for (int i = 0; i <= Math.min(j, degree); i++) {
            BigInteger of = big(choose(m, i));
            above = above.multiply(of).add(big(choose(j, i) * a[i]).multiply(below));
            below = below.multiply(of);
        }
        return new BigInteger[] {above, below.multiply(big(scale))};
    }

    long part(int m, int j, int part) {
        if (m < degree || m > 10 || part < 0 || part > 1) {
            return -102;
        }
        if (j < 0 || j > m) {
            return -101;
        }
        BigInteger[] it = partOf(m, j);
        return inLowest(it[0], it[1], part);
    }

    private boolean mayBeMade(int m) {
        for (int j = 0; j <= m; j++) {
            BigInteger[] it = partOf(m, j);
            if (it[0].signum() < 0 || it[0].compareTo(it[1]) > 0) {
                return false;
            }
        }
        return true;
    }

    int least() {
        for (int m = degree; m <= 10; m++) {
            if (mayBeMade(m)) {
                return m;
            }
        }
        return -1;
    }

    int at(int v) {
        if (v < 0 || v > length) {
            return -1000000000;
        }
        BigInteger above = BigInteger.ZERO;
        for (int i = 0; i <= 4; i++) {
            above = above.add(big(1000L * a[i]).multiply(big(v).pow(i)).multiply(big(length).pow(4 - i)));
        }
        BigInteger below = big(length).pow(4).multiply(big(scale));
        BigInteger[] both = above.divideAndRemainder(below);
        return both[0].intValueExact() - (both[1].signum() < 0 ? 1 : 0);
    }

    int make(int t, int source, int v, int m) {
        if (no(t)) {
            return -101;
        }
        if (noSource(source, v) || m < degree || m > 10) {
            return -102;
        }
        if (!mayBeMade(m)) {
            return -103;
        }
        int[] count = new int[length];
        for (int shift = 0; shift < m; shift++) {
            boolean[] one = row(source, v, shift);
            for (int i = 0; i < length; i++) {
                count[i] += one[i] ? 1 : 0;
            }
        }
        boolean[] row = new boolean[length];
        for (int i = 0; i < length; i++) {
            BigInteger[] it = partOf(m, count[i]);
            row[i] = it[0].multiply(big(length)).compareTo(it[1].multiply(big(turned(i)))) > 0;
        }
        return set(t, row);
    }

    int count(int what) {
        return what == 0 ? length : what == 1 ? degree : what == 2 ? scale : what == 3 ? misses : -102;
    }

    long digest() {
        long h = 157 * 31L + length;
        for (boolean[] row : streams) {
            long bits = 0;
            for (int i = length - 1; i >= 0; i--) {
                bits = 2 * bits + (row[i] ? 1 : 0);
            }
            h = (h * 31 + ones(row)) * 31 + bits;
        }
        h = ((h * 31 + state) * 31 + degree) * 31 + scale;
        for (int number : a) {
            h = h * 31 + number;
        }
        return h * 31 + misses;
    }
}
