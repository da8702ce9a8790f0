/** Promises 24 and 25: count, digest. */
public final class ToldTest {
    private static final Due due = new Due("told");

    public static void main(String[] args) {
        count();
        digestOfANewObject();
        digestFollowsEachNumber();
        due.end();
    }

    private static void count() {
        BitStreams x = new BitStreams();
        int[] first = {8, 0, 1, 0};
        for (int what = 0; what < 4; what++) {
            due.is("new: count(" + what + ")", x.count(what), first[what]);
        }
        x.length(32);
        x.degree(3, 77);
        x.miss(0, 1, 2, 3);
        x.miss(0, 1, 2, 3);
        x.miss(0, 1, 4, 3);
        int[] then = {32, 3, 77, 2};
        for (int what = 0; what < 4; what++) {
            due.is("count(" + what + ")", x.count(what), then[what]);
        }
    }

    private static long digestOf(long... numbers) {
        long h = 157;
        for (long number : numbers) {
            h = 31 * h + number;
        }
        return h;
    }

    private static void digestOfANewObject() {
        due.is("digest of a new object", new BitStreams().digest(), digestOf(8,
                0, 0, 0, 0, 0, 0, 0, 0, 0, 0, 0, 0, 0, 0, 0, 0, 0, 0, 0, 0, 0, 0, 0, 0,
                -1, 0, 1, 0, 0, 0, 0, 0, 0));
    }

    private static void digestFollowsEachNumber() {
        BitStreams x = new BitStreams();
        x.length(64);
        x.source(0, 0, 5);
        x.flip(11, -1L, 64);
        x.put(7, 63, true);
        x.machine(11, 6, 3);
        x.degree(4, 9);
        for (int i = 0; i <= 4; i++) {
            x.term(i, 10 * i - 15);
        }
        x.miss(1, 1, 1, 1);
        long want = digestOf(64,
                5, 31, 0, 0, 0, 0, 64, -1L, 0, 0, 0, 0, 0, 0, 1, Long.MIN_VALUE, 0, 0, 0, 0, 0, 0, 64, -1L,
                5, 4, 9, -15, -5, 5, 15, 25, 1);
        due.is("digest", x.digest(), want);
        due.is("digest again: it changes nothing", x.digest(), want);
    }
}
