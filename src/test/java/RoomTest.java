import com.sun.management.ThreadMXBean;
import java.lang.management.ManagementFactory;

/** All calls of one run live in one room: an object takes its room when it is made, and its calls take none. */
public final class RoomTest {
    private static final Due due = new Due("room");
    private static final ThreadMXBean THREADS = (ThreadMXBean) ManagementFactory.getThreadMXBean();

    public static void main(String[] args) {
        BitStreams first = new BitStreams();
        useAll(first);
        BitStreams x = new BitStreams();
        long before = taken();
        long behind = taken();
        long asking = behind - before;
        before = taken();
        useAll(x);
        behind = taken();
        due.holds("that calls take no room (" + (behind - before) + " bytes)", behind - before <= asking + 2048);
        due.end();
    }

    private static long taken() {
        return THREADS.getThreadAllocatedBytes(Thread.currentThread().getId());
    }

    private static void useAll(BitStreams x) {
        x.length(64);
        x.degree(4, 9);
        x.term(4, 5);
        for (int i = 0; i < 18; i++) {
            x.source(i % 12, i % 4, i);
            x.put(1, i, true);
            x.bit(1, i);
            x.ones(1);
            x.gate(i % 7, 0, 1, 2, 3);
            x.not(4, 5);
            x.later(4, i, 6);
            x.flip(7, 123456789L * i, 50);
            x.both(0, 1, i % 4);
            x.together(0, 1);
            x.miss(i % 4, i % 3, 3, i);
            x.where(i % 2);
            x.machine(0, 8, 8);
            x.state();
            x.ever(8, i, 0);
            x.part(10, i % 11, 0);
            x.least();
            x.at(i);
            x.make(9, i % 4, i, 10);
            x.count(3);
            x.digest();
        }
    }
}
