import java.util.Random;

/** All promises: long runs of calls, right and wrong, on an object and on the plain model, answer by answer. */
public final class ModelTest {
    private static final int CALLS_OF_AN_OBJECT = 512;
    private static final int[] LENGTHS = {8, 16, 32, 64};
    private static final int[] STRANGE = {-1, Integer.MIN_VALUE, Integer.MAX_VALUE, -64, -65, 63, 64, 65, 1001, 0};
    private static final Due due = new Due("model");

    private final Random random;
    private final BitStreams x = new BitStreams();
    private final PlainModel y = new PlainModel();
    private final int wrongEvery;

    private ModelTest(int seed) {
        random = new Random(seed);
        wrongEvery = seed % 3 == 0 ? 12 : 60;
    }

    public static void main(String[] args) {
        for (int seed = 1; seed <= 250; seed++) {
            new ModelTest(seed).run(seed);
        }
        due.end();
    }

    private void run(int seed) {
        int length = LENGTHS[seed % 4];
        due.is("length", x.length(length), y.length(length));
        for (int call = 2; call + 3 < CALLS_OF_AN_OBJECT; call += 2) {
            one(seed);
            due.is("run " + seed + ": digest", x.digest(), y.digest());
        }
        due.is("run " + seed + ": where(0)", x.where(0), y.where(0));
        due.is("run " + seed + ": where(1)", x.where(1), y.where(1));
    }

    /** Mostly from least to most, now and then just outside or far from it. */
    private int from(int least, int most) {
        if (random.nextInt(wrongEvery) != 0) {
            return least + random.nextInt(most - least + 1);
        }
        int which = random.nextInt(STRANGE.length + 2);
        return which == 0 ? least - 1 : which == 1 ? most + 1 : STRANGE[which - 2];
    }

    private int stream() {
        return from(0, 11);
    }

    private int value() {
        return from(0, y.length);
    }

    private void told(int seed, String call, long got, long want) {
        due.is("run " + seed + ": " + call, got, want);
    }

    private void one(int seed) {
        int kind = random.nextInt(30);
        if (kind < 11) {
            oneOfStreams(seed, kind);
        } else if (kind < 18) {
            oneOfTogetherAndMachines(seed, kind);
        } else {
            oneOfForms(seed, kind);
        }
    }

    private void oneOfStreams(int seed, int kind) {
        int a = stream();
        int b = stream();
        int c = stream();
        int t = stream();
        int n = value();
        if (kind == 0) {
            int length = random.nextInt(8) == 0 ? LENGTHS[random.nextInt(4)] : random.nextInt(70);
            told(seed, "length", x.length(length), y.length(length));
        } else if (kind < 4) {
            int source = from(0, 3);
            told(seed, "source", x.source(t, source, n), y.source(t, source, n));
        } else if (kind == 4) {
            boolean is = random.nextBoolean();
            told(seed, "put", x.put(t, n, is), y.put(t, n, is));
        } else if (kind == 5) {
            told(seed, "bit", x.bit(t, n), y.bit(t, n));
        } else if (kind == 6) {
            told(seed, "ones", x.ones(t), y.ones(t));
        } else if (kind == 7) {
            int gate = from(0, 6);
            told(seed, "gate", x.gate(gate, a, b, c, t), y.gate(gate, a, b, c, t));
        } else if (kind == 8) {
            told(seed, "not", x.not(a, t), y.not(a, t));
        } else if (kind == 9) {
            int k = from(-64, 64);
            told(seed, "later", x.later(a, k, t), y.later(a, k, t));
        } else {
            long bits = random.nextLong();
            told(seed, "flip", x.flip(t, bits, n), y.flip(t, bits, n));
        }
    }

    private void oneOfTogetherAndMachines(int seed, int kind) {
        int a = stream();
        int b = stream();
        if (kind == 11) {
            int sort = from(0, 3);
            told(seed, "both", x.both(a, b, sort), y.both(a, b, sort));
        } else if (kind == 12) {
            told(seed, "together", x.together(a, b), y.together(a, b));
        } else if (kind == 13) {
            int gate = from(0, 3);
            int s = from(0, 3);
            int u = from(0, 3);
            int k = from(0, 63);
            told(seed, "miss", x.miss(gate, s, u, k), y.miss(gate, s, u, k));
        } else if (kind == 14) {
            int side = from(0, 1);
            told(seed, "where", x.where(side), y.where(side));
        } else if (kind == 15) {
            int k = random.nextInt(4) == 0 ? from(0, 9) : 2 * from(1, 4);
            told(seed, "machine", x.machine(a, k, b), y.machine(a, k, b));
        } else if (kind == 16) {
            told(seed, "state", x.state(), y.state);
        } else {
            int k = random.nextInt(4) == 0 ? from(0, 9) : 2 * from(1, 4);
            int v = value();
            int part = from(0, 1);
            told(seed, "ever", x.ever(k, v, part), y.ever(k, v, part));
        }
    }

    /** The scale is mostly great and the numbers small, or hardly a form could be made. */
    private void oneOfForms(int seed, int kind) {
        int v = value();
        int m = from(y.degree, 10);
        if (kind == 18) {
            int n = from(0, 4);
            int scale = random.nextInt(3) == 0 ? from(1, 1000) : from(1, 40);
            told(seed, "degree", x.degree(n, scale), y.degree(n, scale));
        } else if (kind < 22) {
            int i = from(0, y.degree);
            int number = random.nextInt(8) == 0 ? from(-1000, 1000) : from(-20, 40);
            told(seed, "term", x.term(i, number), y.term(i, number));
        } else if (kind < 24) {
            int j = from(0, Math.max(0, Math.min(10, m)));
            int part = from(0, 1);
            told(seed, "part", x.part(m, j, part), y.part(m, j, part));
        } else if (kind == 24) {
            told(seed, "least", x.least(), y.least());
        } else if (kind == 25) {
            told(seed, "at", x.at(v), y.at(v));
        } else if (kind < 29) {
            int t = stream();
            int source = from(0, 3);
            told(seed, "make", x.make(t, source, v, m), y.make(t, source, v, m));
        } else {
            int what = from(0, 3);
            told(seed, "count", x.count(what), y.count(what));
        }
    }
}
