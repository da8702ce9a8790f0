import java.util.Arrays;

/** Promises 18 to 23: degree, term, part, least, at, make. */
public final class FormsTest {
    private static final Due due = new Due("forms");

    public static void main(String[] args) {
        degree();
        term();
        part();
        least();
        at();
        makeByHand();
        makeAsTold();
        due.end();
    }

    private static void degree() {
        BitStreams x = Reading.withForm(3, 11, 12, 13, 14, 15);
        due.is("degree", x.count(1), 4);
        due.is("scale", x.count(2), 3);
        due.is("a lower degree", x.degree(2, 1000), 2);
        due.is("degree", x.count(1), 2);
        due.is("scale", x.count(2), 1000);
        due.is("a higher degree", x.degree(4, 1), 4);
        int[] numbers = {11, 12, 13, 0, 0};
        for (int i = 0; i <= 4; i++) {
            due.is("a(" + i + ")", x.term(i, 20 + i), numbers[i]);
        }
        due.is("the same degree", x.degree(4, 2), 4);
        due.is("a(4) stays", x.term(4, 0), 24);
        due.is("degree 0", x.degree(0, 1), 0);
        due.is("a(0) stays", x.at(8), 20000);
        x.degree(1, 1);
        due.is("a(1) is gone", x.term(1, 0), 0);
    }

    private static void term() {
        BitStreams x = Reading.withForm(1, 0, 0, 0);
        due.is("a(1)", x.term(1, 1000), 0);
        due.is("a(1)", x.term(1, -1000), 1000);
        due.is("a(1)", x.term(1, 7), -1000);
        due.is("a(0)", x.term(0, 1), 0);
        due.is("a(2)", x.term(2, 1), 0);
    }

    private static void partIs(BitStreams x, int m, int j, long above, long below) {
        due.is("part(" + m + ", " + j + "), above", x.part(m, j, 0), above);
        due.is("part(" + m + ", " + j + "), below", x.part(m, j, 1), below);
    }

    private static void part() {
        BitStreams x = Reading.withForm(10, 2, 5, -4);
        partIs(x, 4, 2, 23, 60);
        partIs(x, 2, 0, 1, 5);
        partIs(x, 2, 1, 9, 20);
        partIs(x, 2, 2, 3, 10);
        partIs(x, 10, 10, 3, 10);
        partIs(Reading.withForm(1, 0), 0, 0, 0, 1);
        partIs(Reading.withForm(1000, 0), 10, 5, 0, 1);
        partIs(Reading.withForm(4, -6), 3, 1, -3, 2);
        partIs(Reading.withForm(1000, 1000, 1000, 1000, 1000, 1000), 10, 10, 5, 1);
        partIs(Reading.withForm(1, -1000, -1000, -1000, -1000, -1000), 10, 10, -5000, 1);
        partIs(Reading.withForm(1000, 0, 0, 0, 0, 1), 10, 4, 1, 210000);
        partIs(Reading.withForm(1000, 0, 0, 0, 0, 1), 10, 3, 0, 1);
        partIs(Reading.withForm(997, 1, 1, 1, 1, 1), 10, 1, 11, 9970);
        partIs(Reading.withForm(997, 1, 1, 1, 1, 1), 10, 9, 4, 997);
        partIs(Reading.withForm(1, 0, 0, 0, 0, 7), 4, 4, 7, 1);
        partIs(Reading.withForm(1, -101), 0, 0, -101, 1);
    }

    private static void leastIs(int want, int scale, int... numbers) {
        BitStreams x = Reading.withForm(scale, numbers);
        due.is("least", x.least(), want);
        for (int m = numbers.length - 1; m <= 10; m++) {
            boolean all = true;
            for (int j = 0; j <= m; j++) {
                long above = x.part(m, j, 0);
                all &= above >= 0 && above <= x.part(m, j, 1);
            }
            if (m == want || want == BitStreams.NONE || m < want) {
                due.holds("that by " + m + " it may be made just if that is the least", all == (m == want));
            }
            int made = x.make(3, 0, 4, m);
            due.holds("that make goes as the parts do", all ? made >= 0 : made == BitStreams.STATE);
        }
    }

    private static void least() {
        due.is("least of a new object", new BitStreams().least(), 0);
        leastIs(0, 1, 1);
        leastIs(0, 1000, 1000);
        leastIs(BitStreams.NONE, 1, 2);
        leastIs(BitStreams.NONE, 1000, -1);
        leastIs(BitStreams.NONE, 999, 1000);
        leastIs(2, 10, 2, 5, -4);
        leastIs(1, 1, 0, 1);
        leastIs(4, 1, 0, 0, 0, 0, 1);
        leastIs(4, 1, 0, 0, 0, 0, 0);
        leastIs(3, 1, 0, 3, -3);
        leastIs(9, 5, 0, 18, -18);
        leastIs(10, 3, 0, 10, -9);
        leastIs(10, 3, 2, -8, 9);
        leastIs(BitStreams.NONE, 100, 0, 361, -361);
        leastIs(BitStreams.NONE, 1, 0, 4, -4);
        leastIs(3, 1, 1, -3, 3);
        leastIs(9, 5, 5, -18, 18);
    }

    private static void at() {
        due.is("at 3 of 8", Reading.withForm(10, 2, 5, -4).at(3), 331);
        due.is("rounded down below 0", Reading.withForm(3, -1).at(0), -334);
        due.is("rounded down above 0", Reading.withForm(3, 2).at(8), 666);
        due.is("whole below 0", Reading.withForm(4, -1).at(5), -250);
        BitStreams x = Reading.withForm(1, 0, 0, 0, 0, 1);
        due.is("at 4 of 8", x.at(4), 62);
        due.is("at 8 of 8", x.at(8), 1000);
        due.is("at 0", x.at(0), 0);
        x.length(64);
        due.is("at 8 of 64", x.at(8), 0);
        due.is("at 63 of 64", x.at(63), 938);
        x.term(4, -1);
        due.is("at 1 of 64, below 0", x.at(1), -1);
        x = Reading.withForm(1, 1000, 1000, 1000, 1000, 1000);
        x.length(64);
        due.is("the greatest", x.at(64), 5000000);
        x = Reading.withForm(1, -1000, -1000, -1000, -1000, -1000);
        x.length(64);
        due.is("the least", x.at(64), -5000000);
    }

    private static void makeIs(BitStreams x, int source, int v, int m, long want) {
        x.not(9, 9);
        String call = "make(9, " + source + ", " + v + ", " + m + ")";
        due.is(call, x.make(9, source, v, m), Long.bitCount(want));
        due.is("bits of " + call, Reading.bits(x, 9), want);
    }

    private static void makeByHand() {
        makeIs(Reading.withForm(1, 0, 1), 0, 3, 1, 0b00000111);
        makeIs(Reading.withForm(1, 0, 1), 3, 3, 1, 0b01000101);
        makeIs(Reading.withForm(2, 1), 0, 3, 0, 0b01010101);
        makeIs(Reading.withForm(2, 1), 2, 8, 10, 0b01010101);
        makeIs(Reading.withForm(1, 0), 0, 8, 4, 0);
        makeIs(Reading.withForm(1, 1), 0, 0, 4, 0xff);
        makeIs(Reading.withForm(1, 0, 0, 1), 0, 3, 2, 0b00000011);
        makeIs(Reading.withForm(1, 0, 0, 1), 0, 3, 3, 0b00000001);
        makeIs(Reading.withForm(8, 3), 0, 3, 0, 0b00010101);
        makeIs(Reading.withForm(1000, 376), 0, 3, 0, 0b01010101);
        makeIs(Reading.withForm(1, 0, 0, 0, 0, 1), 0, 8, 10, 0xff);
    }

    private static void makeAsTold() {
        int[][] forms = {{1, 0, 3, -3}, {10, 2, 5, -4}, {1, 0, 1}, {1, 1, -1}, {7, 2}, {9, 1, 2, -3, 4, 5}};
        for (int n : Reading.LENGTHS) {
            for (int[] form : forms) {
                int least = ofForm(n, form).least();
                for (int m = least; m <= 10; m++) {
                    makeFollowsParts(ofForm(n, form), n, m, m % 4, (n * m + form[0]) % (n + 1));
                }
            }
        }
    }

    private static BitStreams ofForm(int n, int[] form) {
        BitStreams x = Reading.withForm(form[0], Arrays.copyOfRange(form, 1, form.length));
        x.length(n);
        return x;
    }

    private static void makeFollowsParts(BitStreams x, int n, int m, int source, int v) {
        int[] ones = onesOfShifted(n, m, source, v);
        int made = x.make(1, source, v, m);
        due.is("ones of make", x.ones(1), made);
        for (int i = 0; i < n; i++) {
            int turned = Integer.reverse(i) >>> 32 - Integer.numberOfTrailingZeros(n);
            boolean want = x.part(m, ones[i], 0) * n > turned * x.part(m, ones[i], 1);
            due.is("bit " + i + " of make by " + m, x.bit(1, i), want ? 1 : 0);
        }
    }

    private static int[] onesOfShifted(int n, int m, int source, int v) {
        int[] ones = new int[n];
        for (int shift = 0; shift < m; shift++) {
            BitStreams x = Reading.ofLength(n);
            x.source(0, source, v);
            x.later(0, -shift, 0);
            for (int i = 0; i < n; i++) {
                ones[i] += x.bit(0, i);
            }
        }
        return ones;
    }
}
