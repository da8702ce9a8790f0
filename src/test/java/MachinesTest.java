import java.math.BigInteger;

/** Promises 15 to 17: machine, state, ever. */
public final class MachinesTest {
    private static final Due due = new Due("machines");

    public static void main(String[] args) {
        machineByHand();
        machineAtItsEnds();
        everByHand();
        everAsTold();
        due.end();
    }

    private static void machineByHand() {
        BitStreams x = new BitStreams();
        due.is("no machine yet", x.state(), BitStreams.NONE);
        Reading.write(x, 0, 0b10000111);
        due.is("of 4", x.machine(0, 4, 1), 4);
        due.is("bits of 4", Reading.bits(x, 1), 0b00001111);
        due.is("state of 4", x.state(), 1);
        due.is("a is as it was", Reading.bits(x, 0), 0b10000111);
        due.is("of 2", x.machine(0, 2, 1), 4);
        due.is("bits of 2: just its own", Reading.bits(x, 1), 0b10000111);
        due.is("state of 2", x.state(), 1);
        due.is("of 8, onto itself", x.machine(0, 8, 0), 5);
        due.is("bits of 8", Reading.bits(x, 0), 0b00011111);
        due.is("state of 8", x.state(), 3);
    }

    private static void machineAtItsEnds() {
        for (int n : Reading.LENGTHS) {
            BitStreams x = Reading.ofLength(n);
            x.not(1, 1);
            for (int k = 2; k <= 8; k += 2) {
                due.is("of zeros", x.machine(0, k, 2), 0);
                due.is("the lowest", x.state(), 0);
                due.is("of ones", x.machine(1, k, 2), n);
                due.is("the highest", x.state(), k - 1);
            }
            x.length(8);
            due.is("a length keeps the state", x.state(), 7);
        }
    }

    private static void everIs(BitStreams x, int k, int v, long above, long below) {
        due.is("ever(" + k + ", " + v + "), above", x.ever(k, v, 0), above);
        due.is("ever(" + k + ", " + v + "), below", x.ever(k, v, 1), below);
    }

    private static void everByHand() {
        BitStreams x = new BitStreams();
        everIs(x, 2, 3, 3, 8);
        everIs(x, 4, 3, 9, 34);
        everIs(x, 4, 4, 1, 2);
        for (int k = 2; k <= 8; k += 2) {
            everIs(x, k, 0, 0, 1);
            everIs(x, k, 8, 1, 1);
        }
        x.length(64);
        everIs(x, 8, 1, 1, 15752962);
        everIs(x, 8, 63, 15752961, 15752962);
        everIs(x, 8, 32, 1, 2);
        everIs(x, 8, 64, 1, 1);
    }

    private static void everAsTold() {
        for (int n : Reading.LENGTHS) {
            for (int k = 2; k <= 8; k += 2) {
                BitStreams x = Reading.ofLength(n);
                for (int v = 0; v <= n; v++) {
                    BigInteger upper = BigInteger.ZERO;
                    BigInteger all = BigInteger.ZERO;
                    for (int j = 0; j < k; j++) {
                        BigInteger one = BigInteger.valueOf(v).pow(j)
                                .multiply(BigInteger.valueOf(n - v).pow(k - 1 - j));
                        all = all.add(one);
                        upper = j >= k / 2 ? upper.add(one) : upper;
                    }
                    BigInteger common = upper.gcd(all);
                    everIs(x, k, v, upper.divide(common).longValueExact(), all.divide(common).longValueExact());
                }
            }
        }
    }
}
