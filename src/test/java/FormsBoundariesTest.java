import java.util.Arrays;

/** Promises 18 to 23 at their boundaries: each method is a test of one that the document tells. */
public final class FormsBoundariesTest {
    private static final Due due = new Due("forms, boundaries");

    public static void main(String[] args) {
        degree();
        term();
        part();
        least();
        at();
        make();
        due.end();
    }

    /** A form of a degree whose numbers are all 1. */
    private static BitStreams ofDegree(int n) {
        int[] numbers = new int[n + 1];
        Arrays.fill(numbers, 1);
        BitStreams x = Reading.used(8);
        Reading.giveForm(x, 10, numbers);
        return x;
    }

    // ---- 18: degree

    private static void degree() {
        degreeOfTheLeastAndGreatest();
        degreeLowerAndHigher();
        degreeOfNoDegree();
        degreeOfNoScale();
    }

    private static void degreeOfTheLeastAndGreatest() {
        for (int n : new int[] {0, 4}) {
            for (int scale : new int[] {1, 1000}) {
                BitStreams x = Reading.used(8);
                due.is("degree(" + n + ", " + scale + ")", x.degree(n, scale), n);
                due.is("count(1)", x.count(1), n);
                due.is("count(2)", x.count(2), scale);
            }
        }
    }

    /** Numbers behind the degree are gone, also if a greater degree is told again; the others stay. */
    private static void degreeLowerAndHigher() {
        for (int from = 0; from <= 4; from++) {
            for (int to = 0; to <= 4; to++) {
                BitStreams x = ofDegree(from);
                due.is("degree from " + from + " to " + to, x.degree(to, 7), to);
                x.degree(4, 7);
                for (int i = 0; i <= 4; i++) {
                    due.is("a(" + i + ") from " + from + " to " + to, x.term(i, 0), i <= from && i <= to ? 1 : 0);
                }
            }
        }
    }

    private static void degreeOfNoDegree() {
        for (int n : Reading.beyond(0, 4)) {
            due.refused(() -> ofDegree(4), "degree(" + n + ", 7)", x -> x.degree(n, 7), BitStreams.OUTSIDE);
        }
    }

    private static void degreeOfNoScale() {
        for (int scale : Reading.beyond(1, 1000)) {
            due.refused(() -> ofDegree(4), "degree(0, " + scale + ")", x -> x.degree(0, scale), BitStreams.OUTSIDE);
            due.refused(() -> ofDegree(1), "degree(4, " + scale + ")", x -> x.degree(4, scale), BitStreams.OUTSIDE);
        }
        due.refused(() -> ofDegree(4), "degree(1, -1)", x -> x.degree(1, -1), BitStreams.OUTSIDE);
    }

    // ---- 19: term

    private static void term() {
        for (int n = 0; n <= 4; n++) {
            termOfTheFirstAndLast(n);
            termBehindTheDegree(n);
            termOfNoNumber(n);
            termUnknownComesFirst(n);
        }
    }

    private static void termOfTheFirstAndLast(int n) {
        for (int i : new int[] {0, n}) {
            BitStreams x = ofDegree(n);
            due.is("term(" + i + ", 1000)", x.term(i, 1000), 1);
            due.is("term(" + i + ", -1000)", x.term(i, -1000), 1000);
            due.is("term(" + i + ", 0)", x.term(i, 0), -1000);
            due.is("term(" + i + ", 0) again", x.term(i, 0), 0);
        }
    }

    private static void termBehindTheDegree(int n) {
        for (int i : Reading.beyond(0, n)) {
            due.refused(() -> ofDegree(n), "term " + i + " of degree " + n, x -> x.term(i, 3), BitStreams.UNKNOWN);
        }
        due.refused(() -> ofDegree(n), "term 5 of degree " + n, x -> x.term(5, 3), BitStreams.UNKNOWN);
    }

    private static void termUnknownComesFirst(int n) {
        for (int i : Reading.beyond(0, n)) {
            due.refused(() -> ofDegree(n), "term " + i + " and v", x -> x.term(i, 1001), BitStreams.UNKNOWN);
            due.refused(() -> ofDegree(n), "term " + i + " and v", x -> x.term(i, -1001), BitStreams.UNKNOWN);
        }
    }

    private static void termOfNoNumber(int n) {
        for (int v : Reading.beyond(-1000, 1000)) {
            due.refused(() -> ofDegree(n), "term 0, " + v, x -> x.term(0, v), BitStreams.OUTSIDE);
            due.refused(() -> ofDegree(n), "term " + n + ", " + v, x -> x.term(n, v), BitStreams.OUTSIDE);
        }
    }

    // ---- 20: part

    private static void part() {
        for (int n = 0; n <= 4; n++) {
            partOfTheLeastAndGreatest(n);
            partOfNoDegree(n);
            partOfNoPart(n);
            partOfNoNumber(n);
            partOutsideComesFirst(n);
        }
        partOfZeroAndBelow();
        partOfTheGreatestNumbers();
    }

    private static void partIs(BitStreams x, int m, int j, long above, long below) {
        due.is("part(" + m + ", " + j + ", 0)", x.part(m, j, 0), above);
        due.is("part(" + m + ", " + j + ", 1)", x.part(m, j, 1), below);
    }

    /** The first PART is a(0) by SCALE, the last one the sum of all numbers by it, of every degree. */
    private static void partOfTheLeastAndGreatest(int n) {
        int sum = n + 1;
        int common = sum == 2 || sum == 4 ? 2 : sum == 5 ? 5 : 1;
        for (int m : new int[] {n, 10}) {
            BitStreams x = ofDegree(n);
            partIs(x, m, 0, 1, 10);
            if (m > 0) {
                partIs(x, m, m, sum / common, 10 / common);
            }
        }
    }

    private static void partOfNoDegree(int n) {
        for (int m : Reading.beyond(n, 10)) {
            for (int part : new int[] {0, 1}) {
                due.refused(() -> ofDegree(n), "part, m " + m, x -> x.part(m, 0, part), -102L);
            }
        }
    }

    private static void partOutsideComesFirst(int n) {
        for (int m : Reading.beyond(n, 10)) {
            for (int part : new int[] {0, 1}) {
                due.refused(() -> ofDegree(n), "part, m " + m + " and j", x -> x.part(m, -1, part), -102L);
                due.refused(() -> ofDegree(n), "part, m " + m + " and j", x -> x.part(m, 12, part), -102L);
            }
        }
        for (int part : Reading.beyond(0, 1)) {
            due.refused(() -> ofDegree(n), "part, part and j", x -> x.part(n, n + 1, part), -102L);
            due.refused(() -> ofDegree(n), "part, part and j", x -> x.part(10, -1, part), -102L);
        }
    }

    private static void partOfNoPart(int n) {
        for (int part : Reading.beyond(0, 1)) {
            due.refused(() -> ofDegree(n), "part, part " + part, x -> x.part(n, 0, part), -102L);
        }
    }

    private static void partOfNoNumber(int n) {
        for (int m : new int[] {n, 10}) {
            for (int j : Reading.beyond(0, m)) {
                due.refused(() -> ofDegree(n), "part, j " + j, x -> x.part(m, j, 0), -101L);
                due.refused(() -> ofDegree(n), "part, j " + j, x -> x.part(m, j, 1), -101L);
            }
        }
    }

    /** Lowest terms of 0 are 0 by 1; what is below 0 is so above, never below. */
    private static void partOfZeroAndBelow() {
        partIs(Reading.withForm(1000, 0), 0, 0, 0, 1);
        partIs(Reading.withForm(1000, 0, 0, 0, 0, 0), 10, 10, 0, 1);
        partIs(Reading.withForm(1000, 5, -10), 2, 1, 0, 1);
        partIs(Reading.withForm(1000, -1000), 3, 0, -1, 1);
        partIs(Reading.withForm(4, -6), 3, 1, -3, 2);
        partIs(Reading.withForm(6, 0, -4), 2, 1, -1, 3);
    }

    private static void partOfTheGreatestNumbers() {
        partIs(Reading.withForm(1, 1000, 1000, 1000, 1000, 1000), 10, 10, 5000, 1);
        partIs(Reading.withForm(1, -1000, -1000, -1000, -1000, -1000), 10, 10, -5000, 1);
        partIs(Reading.withForm(1000, 1, 0, 0, 0, 1), 10, 4, 211, 210000);
        partIs(Reading.withForm(997, 1, 0, 0, 0, 1), 10, 4, 211, 209370);
        partIs(Reading.withForm(1000, 0, 0, 0, 0, 1), 10, 3, 0, 1);
        // j below the degree: the sum ends at j.
        partIs(Reading.withForm(1, 3, 1000, 1000, 1000, 1000), 4, 0, 3, 1);
        partIs(Reading.withForm(1, 3, 1000, 1000, 1000, 1000), 4, 1, 253, 1);
    }

    // ---- 21: least

    private static void leastIs(int want, int scale, int... numbers) {
        due.is("least of " + Arrays.toString(numbers) + " by " + scale,
                Reading.withForm(scale, numbers).least(), want);
    }

    private static void least() {
        leastOfJustNoneAndJustAll();
        leastOfTheFirstBeyond();
        leastIsTheDegreeAtLeast();
        leastOfTenAndOfNone();
    }

    private static void leastOfJustNoneAndJustAll() {
        leastIs(0, 1, 0);
        leastIs(0, 1, 1);
        leastIs(0, 1000, 1000);
        leastIs(1, 1000, 1000, -1000);
        leastIs(1, 1000, 0, 1000);
    }

    private static void leastOfTheFirstBeyond() {
        leastIs(BitStreams.NONE, 1000, -1);
        leastIs(BitStreams.NONE, 999, 1000);
        leastIs(BitStreams.NONE, 1, 2);
        leastIs(BitStreams.NONE, 999, 999, -1000);
        leastIs(BitStreams.NONE, 999, 0, 1000);
        leastIs(BitStreams.NONE, 999, 1, 999);
    }

    /** Though a form of a less degree would be the same. */
    private static void leastIsTheDegreeAtLeast() {
        leastIs(0, 1, 0);
        leastIs(1, 1, 0, 0);
        leastIs(2, 1, 0, 0, 0);
        leastIs(3, 1, 0, 0, 0, 0);
        leastIs(4, 1, 0, 0, 0, 0, 0);
    }

    /** 3 x (1 less x): its second PART of degree 2 is 3 by 2. Those below touch 1 or 0 just by degree 10, or never. */
    private static void leastOfTenAndOfNone() {
        leastIs(3, 1, 0, 3, -3);
        leastIs(10, 3, 0, 10, -9);
        leastIs(10, 3, 2, -8, 9);
        leastIs(BitStreams.NONE, 1, 0, 4, -4);
        leastIs(BitStreams.NONE, 1, 1, -4, 4);
        BitStreams x = Reading.withForm(3, 0, 10, -9);
        due.is("make by 9", x.make(0, 0, 4, 9), BitStreams.STATE);
        due.holds("that it is made by 10", x.make(0, 0, 4, 10) >= 0);
    }

    // ---- 22: at

    private static void at() {
        for (int n : Reading.LENGTHS) {
            atBothEnds(n);
            atNoValue(n);
        }
        atRoundsDown();
        atIsTheLeastAndGreatest();
    }

    private static void atBothEnds(int n) {
        BitStreams x = Reading.used(n);
        due.is("at(0) of " + n, x.at(0), 200);
        due.is("at(LENGTH) of " + n, x.at(n), 300);
        due.is("at(LENGTH by 2) of " + n, x.at(n / 2), 350);
    }

    private static void atNoValue(int n) {
        for (int v : Reading.beyond(0, n)) {
            due.refused(() -> Reading.used(n), "at(" + v + ")", x -> x.at(v), -1000000000);
        }
    }

    private static void atRoundsDown() {
        due.is("-1 by 3", Reading.withForm(3, -1).at(0), -334);
        due.is("1 by 3", Reading.withForm(3, 1).at(0), 333);
        due.is("-1 by 4", Reading.withForm(4, -1).at(8), -250);
        due.is("-1 by 1000", Reading.withForm(1000, -1).at(8), -1);
        due.is("x by 1000, just under 1 thousandth", Reading.withForm(1000, 0, 1).at(7), 0);
        due.is("-x by 1000, just over -1 thousandth", Reading.withForm(1000, 0, -1).at(7), -1);
        BitStreams x = Reading.withForm(1000, 0, 0, 0, 0, -1);
        x.length(64);
        due.is("the nearest below 0", x.at(1), -1);
        due.is("0", x.at(0), 0);
        x.term(4, 1);
        due.is("the nearest above 0", x.at(1), 0);
    }

    private static void atIsTheLeastAndGreatest() {
        for (int n : Reading.LENGTHS) {
            BitStreams x = Reading.withForm(1, 1000, 1000, 1000, 1000, 1000);
            x.length(n);
            due.is("the greatest", x.at(n), 5000000);
            BitStreams y = Reading.withForm(1, -1000, -1000, -1000, -1000, -1000);
            y.length(n);
            due.is("the least", y.at(n), -5000000);
        }
        due.is("the greatest of degree 0", Reading.withForm(1, 1000).at(0), 1000000);
        due.is("the least of degree 0", Reading.withForm(1, -1000).at(8), -1000000);
    }

    // ---- 23: make

    private static void make() {
        for (int n : Reading.LENGTHS) {
            makeOfTheLeastAndGreatest(n);
            makeEmptyAndFull(n);
            makeIsAboveNotLike(n);
            makeOfNoStream(n);
            makeOfNoSource(n);
            makeOfNoValue(n);
            makeOfNoDegree(n);
            makeOfWhatMayNotBeMade(n);
            makeUnknownComesFirst(n);
            makeOutsideComesBeforeState(n);
        }
        makeGoesRound();
    }

    private static BitStreams withForm(int n, int scale, int... numbers) {
        BitStreams x = Reading.used(n);
        Reading.giveForm(x, scale, numbers);
        return x;
    }

    /** 3 x (1 less x): it may be made by degrees 3 to 10, not by 2. */
    private static BitStreams hump(int n) {
        return withForm(n, 1, 0, 3, -3);
    }

    private static void makeIs(BitStreams x, int t, int source, int v, int m, long want) {
        String call = "make(" + t + ", " + source + ", " + v + ", " + m + ") of " + x.count(0);
        due.is(call, x.make(t, source, v, m), Long.bitCount(want));
        due.row(call, x, t, want);
    }

    /** x of an empty row is 0, of a full one 1, by each degree that is told, source, and stream. */
    private static void makeOfTheLeastAndGreatest(int n) {
        for (int t : new int[] {0, 11}) {
            for (int source : new int[] {0, 3}) {
                for (int m : new int[] {1, 10}) {
                    makeIs(withForm(n, 1, 0, 1), t, source, 0, m, 0);
                    makeIs(withForm(n, 1, 0, 1), t, source, n, m, Reading.full(n));
                }
            }
        }
        makeIs(withForm(n, 1, 0, 0, 0, 0, 1), 5, 1, n, 4, Reading.full(n));
        makeIs(withForm(n, 1, 0, 0, 0, 0, 1), 5, 1, 0, 4, 0);
    }

    private static void makeEmptyAndFull(int n) {
        for (int m : new int[] {0, 10}) {
            makeIs(withForm(n, 1, 0), 3, 0, n, m, 0);
            makeIs(withForm(n, 1000, 1000), 3, 0, 0, m, Reading.full(n));
        }
    }

    /** A PART like i turned round by LENGTH is not above it: it makes just as many ones as a source turned. */
    private static void makeIsAboveNotLike(int n) {
        for (int ones : new int[] {1, n / 2, n - 1}) {
            BitStreams y = Reading.ofLength(n);
            y.source(0, 1, ones);
            makeIs(withForm(n, n, ones), 3, 0, 0, 0, Reading.bits(y, 0));
        }
        // 0 is not above 0 by LENGTH; the least that is above 0 is.
        makeIs(withForm(n, 1000, 0), 3, 0, 0, 0, 0);
        makeIs(withForm(n, 1000, 1), 3, 0, 0, 0, 1L);
    }

    private static void makeOfNoStream(int n) {
        for (int no : Reading.NO_STREAMS) {
            due.refused(() -> hump(n), "make, t " + no, x -> x.make(no, 0, 3, 3), BitStreams.UNKNOWN);
        }
    }

    private static void makeUnknownComesFirst(int n) {
        for (int no : Reading.NO_STREAMS) {
            due.refused(() -> hump(n), "make, t and source", x -> x.make(no, 4, 3, 3), BitStreams.UNKNOWN);
            due.refused(() -> hump(n), "make, t and v", x -> x.make(no, 0, n + 1, 3), BitStreams.UNKNOWN);
            due.refused(() -> hump(n), "make, t and m", x -> x.make(no, 0, 3, 11), BitStreams.UNKNOWN);
            due.refused(() -> hump(n), "make, t, and not by 2", x -> x.make(no, 0, 3, 2), BitStreams.UNKNOWN);
        }
    }

    private static void makeOfNoSource(int n) {
        for (int no : Reading.beyond(0, 3)) {
            due.refused(() -> hump(n), "make, source " + no, x -> x.make(2, no, 3, 3), BitStreams.OUTSIDE);
        }
    }

    private static void makeOfNoValue(int n) {
        for (int no : Reading.beyond(0, n)) {
            due.refused(() -> hump(n), "make, v " + no, x -> x.make(2, 0, no, 3), BitStreams.OUTSIDE);
        }
    }

    private static void makeOutsideComesBeforeState(int n) {
        for (int no : Reading.beyond(0, 3)) {
            due.refused(() -> hump(n), "make, source, and not by 2", x -> x.make(2, no, 3, 2), BitStreams.OUTSIDE);
        }
        for (int no : Reading.beyond(0, n)) {
            due.refused(() -> hump(n), "make, v, and not by 2", x -> x.make(2, 0, no, 2), BitStreams.OUTSIDE);
        }
    }

    private static void makeOfNoDegree(int n) {
        for (int no : Reading.beyond(2, 10)) {
            due.refused(() -> hump(n), "make, m " + no, x -> x.make(2, 0, 3, no), BitStreams.OUTSIDE);
        }
        for (int degree = 0; degree <= 4; degree++) {
            int d = degree;
            due.refused(() -> withForm(n, 10, new int[d + 1]), "make, m is " + (d - 1) + " of degree " + d,
                    x -> x.make(2, 0, 3, d - 1), BitStreams.OUTSIDE);
            due.is("make, m is the degree", withForm(n, 10, new int[d + 1]).make(2, 0, 3, d), 0);
        }
    }

    private static void makeOfWhatMayNotBeMade(int n) {
        due.refused(() -> hump(n), "make by 2", x -> x.make(2, 0, 3, 2), BitStreams.STATE);
        due.holds("that it is made by 3", hump(n).make(2, 0, 3, 3) >= 0);
        for (int m : new int[] {0, 10}) {
            due.refused(() -> withForm(n, 1000, -1), "make, just below 0", x -> x.make(2, 0, 3, m), BitStreams.STATE);
            due.refused(() -> withForm(n, 999, 1000), "make, just above 1", x -> x.make(2, 0, 3, m), BitStreams.STATE);
        }
        // Just the last PART is above 1, which an empty row would never ask for.
        due.refused(() -> withForm(n, 1, 0, 2), "make, the last is 2", x -> x.make(2, 0, 0, 1), BitStreams.STATE);
    }

    /** x to the m by degree m: bit i is 1, if the ramp's bits i to i and m less 1, round, are all 1. */
    private static void makeGoesRound() {
        makeIs(withForm(8, 1, 0, 0, 1), 3, 0, 7, 2, 0b00111111);
        makeIs(withForm(8, 1, 0, 0, 1), 3, 2, 7, 2, 0b01111110);
        makeIs(withForm(8, 1, 0, 0, 0, 0, 1), 3, 0, 7, 4, 0b00001111);
        makeIs(withForm(64, 1, 0, 0, 1), 3, 0, 63, 2, -1L >>> 2);
        makeIs(withForm(64, 1, 0, 0, 0, 0, 1), 3, 2, 63, 4, -1L >>> 4 << 1);
        // By degree 10 of LENGTH 8 two come again: of them the last bit's 1 is seen twice at bits 6 and 7. Its PARTS
        // are 3 by 10 (seen once), which is not above 3 by 8, bit 6 turned round, and 8 by 15, which is.
        makeIs(hump(8), 3, 2, 1, 10, 0b01010101);
    }
}
