/** Promises 1 to 10 at their boundaries: each method is a test of one that the document tells. */
public final class StreamsBoundariesTest {
    private static final Due due = new Due("streams, boundaries");

    public static void main(String[] args) {
        aNewObject();
        for (int n : Reading.LENGTHS) {
            length(n);
            source(n);
            put(n);
            bit(n);
            ones(n);
            gate(n);
            not(n);
            later(n);
            flip(n);
        }
        aRowFillsALong();
        due.end();
    }

    // ---- 1: a new object

    private static void aNewObject() {
        newLengthIsEight();
        newBitsAreZero();
        newFormIsZeroOfDegreeZero();
        newHasNoMachineAndNoMiss();
        objectsAreApart();
        theLastCallPromised();
    }

    private static void newLengthIsEight() {
        due.is("new: LENGTH", new BitStreams().count(0), 8);
        due.is("new: its last bit", new BitStreams().bit(11, 7), 0);
        due.refused(BitStreams::new, "new: bit 8", x -> x.bit(11, 8), BitStreams.UNKNOWN);
        due.is("new: the greatest v", new BitStreams().source(0, 0, 8), 8);
        due.refused(BitStreams::new, "new: v 9", x -> x.source(0, 0, 9), BitStreams.OUTSIDE);
    }

    private static void newBitsAreZero() {
        BitStreams x = new BitStreams();
        for (int t = 0; t < Reading.STREAMS; t++) {
            due.row("new", x, t, 0);
        }
    }

    private static void newFormIsZeroOfDegreeZero() {
        BitStreams x = new BitStreams();
        due.is("new: degree", x.count(1), 0);
        due.is("new: SCALE", x.count(2), 1);
        due.is("new: at(0)", x.at(0), 0);
        due.is("new: at(8)", x.at(8), 0);
        due.is("new: least", x.least(), 0);
        due.is("new: part(0, 0, 0)", x.part(0, 0, 0), 0);
        due.is("new: part(0, 0, 1)", x.part(0, 0, 1), 1);
        due.is("new: part(10, 10, 0)", x.part(10, 10, 0), 0);
        due.is("new: make", x.make(0, 0, 8, 0), 0);
        due.is("new: a(0)", x.term(0, 1), 0);
        due.refused(BitStreams::new, "new: a(1)", y -> y.term(1, 0), BitStreams.UNKNOWN);
    }

    private static void newHasNoMachineAndNoMiss() {
        BitStreams x = new BitStreams();
        due.is("new: state", x.state(), BitStreams.NONE);
        due.is("new: how often miss", x.count(3), 0);
        due.is("new: where(0)", x.where(0), BitStreams.STATE);
        due.is("new: where(1)", x.where(1), BitStreams.STATE);
    }

    private static void objectsAreApart() {
        BitStreams x = new BitStreams();
        long first = x.digest();
        BitStreams y = Reading.used(64);
        due.is("an object beside another", x.digest(), first);
        due.is("its where", x.where(0), BitStreams.STATE);
        long second = y.digest();
        x.length(16);
        x.not(0, 0);
        x.degree(4, 1000);
        x.miss(3, 3, 3, 63);
        due.is("the other one", y.digest(), second);
    }

    /** The 512th call is promised as the first is. */
    private static void theLastCallPromised() {
        BitStreams x = new BitStreams();
        for (int call = 1; call <= 510; call++) {
            x.put(call % 12, call % 8, true);
        }
        due.is("the 511th call", x.put(0, 0, false), 1);
        due.is("the 512th call", x.ones(0), 1);
    }

    // ---- 2: length

    private static void length(int n) {
        lengthFromOneToEach(n);
        lengthEmptiesFullStreams(n);
        lengthKeepsAllElse(n);
        lengthBesideEachTold(n);
    }

    private static void lengthFromOneToEach(int n) {
        for (int next : Reading.LENGTHS) {
            BitStreams x = Reading.ofLength(n);
            due.is("length(" + next + ") behind " + n, x.length(next), n);
            due.is("count(0)", x.count(0), next);
            due.is("its last bit", x.bit(0, next - 1), 0);
            due.is("beyond its last bit", x.bit(0, next), BitStreams.UNKNOWN);
        }
    }

    /** A shorter LENGTH, the same and a longer one; and bits behind a shorter one do not come back. */
    private static void lengthEmptiesFullStreams(int n) {
        for (int next : Reading.LENGTHS) {
            for (int t = 0; t < Reading.STREAMS; t++) {
                BitStreams x = Reading.ofLength(n);
                due.is("a full stream", x.not(t, t), n);
                x.length(next);
                due.row("length(" + next + ") of a full stream of " + n, x, t, 0);
                x.length(64);
                due.row("length(64) behind it", x, t, 0);
            }
        }
    }

    private static void lengthKeepsAllElse(int n) {
        for (int next : Reading.LENGTHS) {
            BitStreams x = Reading.used(n);
            BitStreams y = Reading.used(n);
            x.length(next);
            due.is("state() behind a length", x.state(), y.state());
            due.is("where(0) behind a length", x.where(0), y.where(0));
            due.is("where(1) behind a length", x.where(1), y.where(1));
            due.is("degree behind a length", x.count(1), 2);
            due.is("SCALE behind a length", x.count(2), 10);
            due.is("how often miss behind a length", x.count(3), 1);
            due.is("a(0) behind a length", x.term(0, 0), 2);
            due.is("a(1) behind a length", x.term(1, 0), 5);
            due.is("a(2) behind a length", x.term(2, 0), -4);
        }
    }

    private static void lengthBesideEachTold(int n) {
        int[] not = {
            7, 9, 15, 17, 31, 33, 63, 65, 0, 1, -1, 4, 24, 48, 128, 256, -8, -64,
            Integer.MIN_VALUE, Integer.MAX_VALUE
        };
        for (int other : not) {
            due.refused(() -> Reading.used(n), "length(" + other + ")", x -> x.length(other), BitStreams.OUTSIDE);
        }
    }

    // ---- 3: source

    private static void source(int n) {
        sourceOfTheLeastAndGreatest(n);
        sourceOfOneAndAllButOne(n);
        sourceOfNoStream(n);
        sourceOfNoSource(n);
        sourceOfNoValue(n);
        sourceUnknownComesFirst(n);
    }

    /** Of the least and the greatest stream and source; v 0 makes an empty row, v LENGTH a full one. */
    private static void sourceOfTheLeastAndGreatest(int n) {
        for (int t : new int[] {0, 11}) {
            for (int source = 0; source <= 3; source++) {
                BitStreams x = Reading.used(n);
                due.is("source(" + t + ", " + source + ", 0)", x.source(t, source, 0), 0);
                due.row("v 0", x, t, 0);
                due.is("source(" + t + ", " + source + ", LENGTH)", x.source(t, source, n), n);
                due.row("v LENGTH", x, t, Reading.full(n));
            }
        }
    }

    private static void sourceIs(int n, int source, int v, long want) {
        BitStreams x = Reading.used(n);
        String call = "source(5, " + source + ", " + v + ") of " + n;
        due.is(call, x.source(5, source, v), Long.bitCount(want));
        due.row(call, x, 5, want);
    }

    private static void sourceOfOneAndAllButOne(int n) {
        long full = Reading.full(n);
        long last = 1L << n - 1;
        sourceIs(n, 0, 1, 1L);
        sourceIs(n, 0, n - 1, full ^ last);
        sourceIs(n, 1, 1, 1L);
        sourceIs(n, 1, 2, 1L | 1L << n / 2);
        sourceIs(n, 1, n - 1, full ^ last);
        sourceIs(n, 2, 1, last);
        sourceIs(n, 2, n - 1, full ^ 1L);
        // The register begins with 1; just its last bit waits for LENGTH.
        sourceIs(n, 3, 1, 1L);
        sourceIs(n, 3, n - 1, full ^ last);
    }

    private static void sourceOfNoStream(int n) {
        for (int t : Reading.NO_STREAMS) {
            due.refused(() -> Reading.used(n), "source of stream " + t, x -> x.source(t, 1, 3), BitStreams.UNKNOWN);
        }
    }

    private static void sourceOfNoSource(int n) {
        for (int no : Reading.beyond(0, 3)) {
            due.refused(() -> Reading.used(n), "source " + no, x -> x.source(2, no, 3), BitStreams.OUTSIDE);
        }
    }

    private static void sourceOfNoValue(int n) {
        for (int no : Reading.beyond(0, n)) {
            for (int source = 0; source <= 3; source++) {
                int s = source;
                due.refused(() -> Reading.used(n), "source with v " + no, x -> x.source(2, s, no), BitStreams.OUTSIDE);
            }
        }
    }

    private static void sourceUnknownComesFirst(int n) {
        due.refused(() -> Reading.used(n), "source, t and source", x -> x.source(12, 4, 3), BitStreams.UNKNOWN);
        due.refused(() -> Reading.used(n), "source, t and v", x -> x.source(-1, 0, n + 1), BitStreams.UNKNOWN);
    }

    // ---- 4: put

    private static void put(int n) {
        putAtBothEnds(n);
        putWhatIsThere(n);
        putOfNoStream(n);
        putOfNoBit(n);
    }

    private static void putAtBothEnds(int n) {
        for (int t : new int[] {0, 11}) {
            for (int i : new int[] {0, n - 1}) {
                BitStreams x = Reading.ofLength(n);
                due.is("put into an empty stream", x.put(t, i, true), 0);
                due.row("put of one", x, t, 1L << i);
                x.not(t, t);
                x.put(t, i, true);
                due.is("put from a full stream", x.put(t, i, false), 1);
                due.row("put of none", x, t, Reading.full(n) ^ 1L << i);
            }
        }
    }

    private static void putWhatIsThere(int n) {
        BitStreams x = Reading.ofLength(n);
        due.is("put 0 where 0 is", x.put(4, n - 1, false), 0);
        due.row("it", x, 4, 0);
        x.not(4, 4);
        due.is("put 1 where 1 is", x.put(4, n - 1, true), 1);
        due.row("it", x, 4, Reading.full(n));
    }

    private static void putOfNoStream(int n) {
        for (int t : Reading.NO_STREAMS) {
            due.refused(() -> Reading.used(n), "put 1 of stream " + t, x -> x.put(t, 0, true), BitStreams.UNKNOWN);
            due.refused(() -> Reading.used(n), "put 0 of stream " + t, x -> x.put(t, 0, false), BitStreams.UNKNOWN);
        }
    }

    private static void putOfNoBit(int n) {
        for (int i : Reading.beyond(0, n - 1)) {
            due.refused(() -> Reading.used(n), "put 1 at bit " + i, x -> x.put(3, i, true), BitStreams.UNKNOWN);
            due.refused(() -> Reading.used(n), "put 0 at bit " + i, x -> x.put(3, i, false), BitStreams.UNKNOWN);
        }
    }

    // ---- 5: bit

    private static void bit(int n) {
        bitAtBothEnds(n);
        bitOfNoStream(n);
        bitOfNoBit(n);
    }

    private static void bitAtBothEnds(int n) {
        for (int t : new int[] {0, 11}) {
            BitStreams x = Reading.ofLength(n);
            x.flip(t, 1L, 1);
            due.is("bit 0 alone", x.bit(t, 0), 1);
            due.is("the last bit beside it", x.bit(t, n - 1), 0);
            x.later(t, -1, t);
            due.is("the last bit alone", x.bit(t, n - 1), 1);
            due.is("bit 0 beside it", x.bit(t, 0), 0);
        }
    }

    private static void bitOfNoStream(int n) {
        for (int t : Reading.NO_STREAMS) {
            due.refused(() -> Reading.used(n), "bit of stream " + t, x -> x.bit(t, 0), BitStreams.UNKNOWN);
        }
    }

    private static void bitOfNoBit(int n) {
        for (int i : Reading.beyond(0, n - 1)) {
            due.refused(() -> Reading.used(n), "bit " + i, x -> x.bit(3, i), BitStreams.UNKNOWN);
        }
    }

    // ---- 6: ones

    private static void ones(int n) {
        onesOfEmptyAndFull(n);
        onesOfNoStream(n);
    }

    private static void onesOfEmptyAndFull(int n) {
        for (int t : new int[] {0, 11}) {
            BitStreams x = Reading.ofLength(n);
            due.is("ones of an empty stream", x.ones(t), 0);
            x.not(t, t);
            due.is("ones of a full stream", x.ones(t), n);
        }
    }

    private static void onesOfNoStream(int n) {
        for (int t : Reading.NO_STREAMS) {
            due.refused(() -> Reading.used(n), "ones(" + t + ")", x -> x.ones(t), BitStreams.UNKNOWN);
        }
    }

    // ---- 7: gate

    private static void gate(int n) {
        gateOfEmptyAndFull(n);
        gateOfTheLeastAndGreatest(n);
        gateOfNoGate(n);
        gateOutsideComesFirst(n);
        gateOfNoStream(n);
        gateLooksAtTheThirdJustForMixAndMost(n);
    }

    /** Each row empty or full: what each gate makes of all that may stand in one place. */
    private static void gateOfEmptyAndFull(int n) {
        // From none of the three full to all: a is figure 1, b figure 2, c figure 4.
        String[] wanted = {"00010001", "01110111", "01100110", "10011001", "01000100", "01010011", "00010111"};
        for (int gate = 0; gate < wanted.length; gate++) {
            for (int which = 0; which < 8; which++) {
                BitStreams x = Reading.ofLength(n);
                x.source(0, 0, (which & 1) == 0 ? 0 : n);
                x.source(1, 0, (which & 2) == 0 ? 0 : n);
                x.source(2, 0, (which & 4) == 0 ? 0 : n);
                boolean full = wanted[gate].charAt(which) == '1';
                String call = "gate " + gate + " of empty and full, " + which;
                due.is(call, x.gate(gate, 0, 1, 2, 3), full ? n : 0);
                due.row(call, x, 3, full ? Reading.full(n) : 0);
            }
        }
    }

    private static void gateOfTheLeastAndGreatest(int n) {
        for (int gate = 0; gate <= 6; gate++) {
            BitStreams x = Reading.used(n);
            due.holds("that gate " + gate + " of stream 0 is done", x.gate(gate, 0, 0, 0, 0) >= 0);
            due.holds("that gate " + gate + " of stream 11 is done", x.gate(gate, 11, 11, 11, 11) >= 0);
        }
    }

    private static void gateOfNoGate(int n) {
        for (int no : Reading.beyond(0, 6)) {
            due.refused(() -> Reading.used(n), "gate " + no, x -> x.gate(no, 0, 1, 2, 3), BitStreams.OUTSIDE);
        }
    }

    private static void gateOutsideComesFirst(int n) {
        for (int no : Reading.beyond(0, 6)) {
            due.refused(() -> Reading.used(n), "gate, t too", x -> x.gate(no, 0, 1, 2, 12), BitStreams.OUTSIDE);
            due.refused(() -> Reading.used(n), "gate, a too", x -> x.gate(no, -1, 1, 2, 3), BitStreams.OUTSIDE);
            due.refused(() -> Reading.used(n), "gate, b too", x -> x.gate(no, 0, 12, 2, 3), BitStreams.OUTSIDE);
            due.refused(() -> Reading.used(n), "gate, c too", x -> x.gate(no, 0, 1, -1, 3), BitStreams.OUTSIDE);
        }
    }

    private static void gateOfNoStream(int n) {
        for (int no : Reading.NO_STREAMS) {
            for (int gate = 0; gate <= 6; gate++) {
                int g = gate;
                due.refused(() -> Reading.used(n), "gate, t " + no, x -> x.gate(g, 0, 1, 2, no), BitStreams.UNKNOWN);
                due.refused(() -> Reading.used(n), "gate, a " + no, x -> x.gate(g, no, 1, 2, 3), BitStreams.UNKNOWN);
                due.refused(() -> Reading.used(n), "gate, b " + no, x -> x.gate(g, 0, no, 2, 3), BitStreams.UNKNOWN);
            }
        }
    }

    private static void gateLooksAtTheThirdJustForMixAndMost(int n) {
        for (int no : Reading.NO_STREAMS) {
            due.refused(() -> Reading.used(n), "gate 5, c", x -> x.gate(5, 0, 1, no, 3), BitStreams.UNKNOWN);
            due.refused(() -> Reading.used(n), "gate 6, c", x -> x.gate(6, 0, 1, no, 3), BitStreams.UNKNOWN);
            for (int gate = 0; gate <= 4; gate++) {
                BitStreams x = Reading.used(n);
                BitStreams y = Reading.used(n);
                due.is("gate " + gate + " with c " + no, x.gate(gate, 0, 1, no, 3), y.gate(gate, 0, 1, 2, 3));
                due.is("all behind it", x.digest(), y.digest());
            }
        }
    }

    // ---- 8: not

    private static void not(int n) {
        notOfEmptyAndFull(n);
        notOfNoStream(n);
    }

    private static void notOfEmptyAndFull(int n) {
        BitStreams x = Reading.ofLength(n);
        due.is("not of an empty stream", x.not(0, 11), n);
        due.row("not of an empty stream", x, 11, Reading.full(n));
        due.is("not of a full stream", x.not(11, 0), 0);
        due.row("not of a full stream", x, 0, 0);
    }

    private static void notOfNoStream(int n) {
        for (int no : Reading.NO_STREAMS) {
            due.refused(() -> Reading.used(n), "not, a " + no, x -> x.not(no, 1), BitStreams.UNKNOWN);
            due.refused(() -> Reading.used(n), "not, t " + no, x -> x.not(1, no), BitStreams.UNKNOWN);
        }
    }

    // ---- 9: later

    private static void later(int n) {
        laterRoundBothEnds(n);
        laterByAllThatIsTold(n);
        laterOfEmptyAndFull(n);
        laterOfNoStream(n);
        laterByTooMuch(n);
        laterUnknownComesFirst(n);
    }

    private static void laterIs(int n, long row, int k, long want) {
        BitStreams x = Reading.ofLength(n);
        Reading.write(x, 0, row);
        String call = "later by " + k + " of " + n;
        due.is(call, x.later(0, k, 11), Long.bitCount(want));
        due.row(call, x, 11, want);
        due.row(call + ", a", x, 0, row);
        due.is(call + ", onto itself", x.later(0, k, 0), Long.bitCount(want));
        due.row(call + ", onto itself", x, 0, want);
    }

    private static void laterRoundBothEnds(int n) {
        long first = 1L;
        long last = 1L << n - 1;
        laterIs(n, last, 1, first);
        laterIs(n, first, -1, last);
        laterIs(n, first, n - 1, last);
        laterIs(n, last, 1 - n, first);
        laterIs(n, first | last, 0, first | last);
        laterIs(n, first | last, n, first | last);
        laterIs(n, first | last, -n, first | last);
        laterIs(n, last, 63, 1L << n - 2);
        laterIs(n, first, -63, 2L);
    }

    /** -64 and 64 are told, and are whole rounds of every LENGTH. */
    private static void laterByAllThatIsTold(int n) {
        laterIs(n, 0b1011L, 64, 0b1011L);
        laterIs(n, 0b1011L, -64, 0b1011L);
    }

    private static void laterOfEmptyAndFull(int n) {
        for (int k : new int[] {-64, -1, 0, 1, 64}) {
            laterIs(n, 0L, k, 0L);
            laterIs(n, Reading.full(n), k, Reading.full(n));
        }
    }

    private static void laterOfNoStream(int n) {
        for (int no : Reading.NO_STREAMS) {
            due.refused(() -> Reading.used(n), "later, a " + no, x -> x.later(no, 1, 2), BitStreams.UNKNOWN);
            due.refused(() -> Reading.used(n), "later, t " + no, x -> x.later(0, 1, no), BitStreams.UNKNOWN);
        }
    }

    private static void laterUnknownComesFirst(int n) {
        for (int no : Reading.NO_STREAMS) {
            due.refused(() -> Reading.used(n), "later, a and k", x -> x.later(no, 65, 2), BitStreams.UNKNOWN);
            due.refused(() -> Reading.used(n), "later, t and k", x -> x.later(0, -65, no), BitStreams.UNKNOWN);
        }
    }

    private static void laterByTooMuch(int n) {
        for (int k : Reading.beyond(-64, 64)) {
            due.refused(() -> Reading.used(n), "later by " + k, x -> x.later(0, k, 2), BitStreams.OUTSIDE);
        }
    }

    // ---- 10: flip

    private static void flip(int n) {
        flipNoneAndAll(n);
        flipLooksAtTheFirstAlone(n);
        flipOfNoStream(n);
        flipOfTooMany(n);
        flipUnknownComesFirst(n);
    }

    private static void flipIs(int n, long row, long bits, int first, long want) {
        for (int t : new int[] {0, 11}) {
            BitStreams x = Reading.ofLength(n);
            Reading.write(x, t, row);
            String call = "flip(" + t + ", " + bits + ", " + first + ") of " + n;
            due.is(call, x.flip(t, bits, first), Long.bitCount(row ^ want));
            due.row(call, x, t, want);
        }
    }

    private static void flipNoneAndAll(int n) {
        long full = Reading.full(n);
        flipIs(n, 0b101L, -1L, 0, 0b101L);
        flipIs(n, 0b101L, 0L, n, 0b101L);
        flipIs(n, 0L, -1L, n, full);
        flipIs(n, full, -1L, n, 0L);
        flipIs(n, 0b101L, -1L, n, full ^ 0b101L);
    }

    private static void flipLooksAtTheFirstAlone(int n) {
        long last = 1L << n - 1;
        flipIs(n, 0L, -1L, 1, 1L);
        flipIs(n, 0L, -2L, 1, 0L);
        flipIs(n, 0L, -1L, n - 1, Reading.full(n) ^ last);
        flipIs(n, 0L, last, n - 1, 0L);
        flipIs(n, 0L, last, n, last);
        flipIs(n, 0L, ~Reading.full(n), n, 0L);
        flipIs(n, 1L, Long.MIN_VALUE, n, n == 64 ? Long.MIN_VALUE | 1L : 1L);
        flipIs(n, 0L, Long.MAX_VALUE, n, n == 64 ? Long.MAX_VALUE : Reading.full(n));
    }

    private static void flipOfNoStream(int n) {
        for (int no : Reading.NO_STREAMS) {
            due.refused(() -> Reading.used(n), "flip of stream " + no, x -> x.flip(no, -1L, 1), BitStreams.UNKNOWN);
        }
    }

    private static void flipUnknownComesFirst(int n) {
        for (int no : Reading.NO_STREAMS) {
            due.refused(() -> Reading.used(n), "flip, t and n", x -> x.flip(no, -1L, n + 1), BitStreams.UNKNOWN);
            due.refused(() -> Reading.used(n), "flip, t and n", x -> x.flip(no, -1L, -1), BitStreams.UNKNOWN);
        }
    }

    private static void flipOfTooMany(int n) {
        for (int no : Reading.beyond(0, n)) {
            due.refused(() -> Reading.used(n), "flip of the first " + no, x -> x.flip(5, -1L, no), BitStreams.OUTSIDE);
        }
    }

    // ---- LENGTH 64

    /** Bit 63 is the long's sign: no call may take it for less than a bit like the others. */
    private static void aRowFillsALong() {
        BitStreams x = Reading.ofLength(64);
        due.is("64: put", x.put(0, 63, true), 0);
        due.row("64: put", x, 0, Long.MIN_VALUE);
        due.is("64: not", x.not(0, 1), 63);
        due.row("64: not", x, 1, Long.MAX_VALUE);
        due.is("64: or", x.gate(1, 0, 1, 0, 2), 64);
        due.row("64: or", x, 2, -1L);
        due.is("64: like", x.gate(3, 0, 2, 0, 3), 1);
        due.row("64: like", x, 3, Long.MIN_VALUE);
        due.is("64: later", x.later(0, -63, 4), 1);
        due.row("64: later", x, 4, 1L);
        due.is("64: put 0", x.put(2, 63, false), 1);
        due.is("64: bit", x.bit(2, 63), 0);
        due.is("64: ones", x.ones(2), 63);
    }
}
