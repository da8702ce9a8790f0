/** Promises 15 to 17 at their boundaries: each method is a test of one that the document tells. */
public final class MachinesBoundariesTest {
    private static final int[] NO_MACHINES = {
        -2, -1, 0, 1, 3, 5, 7, 9, 10, 12, 64, Integer.MIN_VALUE, Integer.MAX_VALUE, Integer.MAX_VALUE - 1
    };
    private static final Due due = new Due("machines, boundaries");

    public static void main(String[] args) {
        for (int n : Reading.LENGTHS) {
            machine(n);
            state(n);
            ever(n);
        }
        machineStaysAtItsEnds();
        everOfTheGreatest();
        due.end();
    }

    // ---- 15: machine

    private static void machine(int n) {
        machineOfEmptyAndFull(n);
        machineBeginsInTheMiddle(n);
        machineOfNoStream(n);
        machineOfNoStates(n);
        machineUnknownComesFirst(n);
    }

    private static void machineOfEmptyAndFull(int n) {
        for (int k = 2; k <= 8; k += 2) {
            BitStreams x = Reading.ofLength(n);
            due.is("machine of " + k + ", empty", x.machine(0, k, 11), 0);
            due.row("machine of " + k + ", empty", x, 11, 0);
            due.is("its state: the lowest", x.state(), 0);
            x.not(11, 11);
            due.is("machine of " + k + ", full", x.machine(11, k, 0), n);
            due.row("machine of " + k + ", full", x, 0, Reading.full(n));
            due.is("its state: the highest", x.state(), k - 1);
        }
    }

    /** One step up from the lower half's middle is the upper half, one down is not, wherever the latest one ended. */
    private static void machineBeginsInTheMiddle(int n) {
        for (int k = 2; k <= 8; k += 2) {
            BitStreams x = Reading.ofLength(n);
            x.not(1, 1);
            x.put(2, 0, true);
            x.machine(1, k, 3);
            due.is("machine of " + k + " behind the highest", x.machine(2, k, 3), 1);
            due.row("machine of " + k + " behind the highest", x, 3, 1L);
            x.not(2, 2);
            x.machine(0, k, 3);
            due.is("machine of " + k + " behind the lowest", x.machine(2, k, 3), n - (k == 2 ? 1 : 2));
            due.is("its first bit", x.bit(3, 0), 0);
            due.is("its second bit", x.bit(3, 1), k == 2 ? 1 : 0);
        }
    }

    private static void machineOfNoStream(int n) {
        for (int no : Reading.NO_STREAMS) {
            due.refused(() -> Reading.used(n), "machine, a " + no, x -> x.machine(no, 4, 1), BitStreams.UNKNOWN);
            due.refused(() -> Reading.used(n), "machine, t " + no, x -> x.machine(1, 4, no), BitStreams.UNKNOWN);
        }
    }

    private static void machineUnknownComesFirst(int n) {
        for (int no : Reading.NO_STREAMS) {
            due.refused(() -> Reading.used(n), "machine, a and k", x -> x.machine(no, 3, 1), BitStreams.UNKNOWN);
            due.refused(() -> Reading.used(n), "machine, t and k", x -> x.machine(1, 10, no), BitStreams.UNKNOWN);
        }
    }

    private static void machineOfNoStates(int n) {
        for (int k : NO_MACHINES) {
            due.refused(() -> Reading.used(n), "machine of " + k, x -> x.machine(0, k, 1), BitStreams.OUTSIDE);
        }
    }

    private static void machineIs(int k, long row, long want, int state) {
        BitStreams x = new BitStreams();
        Reading.write(x, 4, row);
        String call = "machine of " + k + ", " + Long.toBinaryString(row);
        due.is(call, x.machine(4, k, 5), Long.bitCount(want));
        due.row(call, x, 5, want);
        due.is(call + ": state", x.state(), state);
    }

    /** As far as there are states: a step beyond the highest or the lowest is none, and is not owed behind it. */
    private static void machineStaysAtItsEnds() {
        // Of 8, from 3: 4 5 6 7, then 6 5 4 3.
        machineIs(8, 0b00001111, 0b01111111, 3);
        // 4 5 6 7 7, then 6 5 4.
        machineIs(8, 0b00011111, 0b11111111, 4);
        // 2 1 0, then 1 2 3 4 5.
        machineIs(8, 0b11111000, 0b11000000, 5);
        // 2 1 0 0, then 1 2 3 4.
        machineIs(8, 0b11110000, 0b10000000, 4);
        // Of 4, from 1: 2 3 3 3, then 2 1 0 0.
        machineIs(4, 0b00001111, 0b00011111, 0);
        // Of 2, from 0: its own bits are just those that it is given.
        machineIs(2, 0b01011010, 0b01011010, 0);
    }

    // ---- 16: state

    private static void state(int n) {
        stateOfNone(n);
        stateStays(n);
    }

    private static void stateOfNone(int n) {
        BitStreams x = Reading.ofLength(n);
        due.is("state of none", x.state(), BitStreams.NONE);
        x.machine(12, 4, 0);
        x.machine(0, 4, -1);
        x.machine(0, 3, 1);
        x.machine(0, 0, 1);
        due.is("state, all refused", x.state(), BitStreams.NONE);
        x.machine(0, 2, 1);
        due.is("state of one", x.state(), 0);
    }

    private static void stateStays(int n) {
        BitStreams x = Reading.ofLength(n);
        x.not(0, 0);
        x.machine(0, 8, 1);
        x.machine(0, 9, 1);
        x.machine(0, 6, 12);
        due.is("state behind refused ones", x.state(), 7);
        x.ever(2, 0, 0);
        x.source(0, 0, 0);
        x.length(8);
        due.is("state behind other calls", x.state(), 7);
    }

    // ---- 17: ever

    private static void ever(int n) {
        everOfNoneAndAll(n);
        everOfTheMiddle(n);
        everOfNoStates(n);
        everOfNoValue(n);
        everOfNoPart(n);
    }

    private static void everIs(int n, int k, int v, long above, long below) {
        BitStreams x = Reading.ofLength(n);
        due.is("ever(" + k + ", " + v + ", 0) of " + n, x.ever(k, v, 0), above);
        due.is("ever(" + k + ", " + v + ", 1) of " + n, x.ever(k, v, 1), below);
    }

    /** 0 to the 0 is 1: without ones just the lowest state is left, without zeros just the highest. */
    private static void everOfNoneAndAll(int n) {
        for (int k = 2; k <= 8; k += 2) {
            everIs(n, k, 0, 0, 1);
            everIs(n, k, n, 1, 1);
        }
    }

    private static void everOfTheMiddle(int n) {
        for (int k = 2; k <= 8; k += 2) {
            everIs(n, k, n / 2, 1, 2);
        }
        everIs(n, 2, 1, 1, n);
        everIs(n, 2, n - 1, n - 1, n);
    }

    private static void everOfNoStates(int n) {
        for (int k : NO_MACHINES) {
            due.refused(() -> Reading.used(n), "ever, k " + k, x -> x.ever(k, 3, 0), -102L);
            due.refused(() -> Reading.used(n), "ever, k " + k, x -> x.ever(k, 3, 1), -102L);
        }
    }

    private static void everOfNoValue(int n) {
        for (int v : Reading.beyond(0, n)) {
            due.refused(() -> Reading.used(n), "ever, v " + v, x -> x.ever(2, v, 0), -102L);
            due.refused(() -> Reading.used(n), "ever, v " + v, x -> x.ever(8, v, 1), -102L);
        }
    }

    private static void everOfNoPart(int n) {
        for (int part : Reading.beyond(0, 1)) {
            due.refused(() -> Reading.used(n), "ever, part " + part, x -> x.ever(4, 3, part), -102L);
        }
    }

    /** Of 8 the upper half's sum is to the lower's as v to the 4 is to (LENGTH less v) to the 4. */
    private static void everOfTheGreatest() {
        everIs(64, 8, 1, 1L, 15752962L);
        everIs(64, 8, 63, 15752961L, 15752962L);
        everIs(64, 8, 33, 1185921L, 2109442L);
        everIs(64, 8, 31, 923521L, 2109442L);
    }
}
