import com.sun.management.ThreadMXBean;
import java.lang.management.ManagementFactory;

/** All calls of a run share one room: the object is made small, and its calls make nothing more. */
public final class RoomTest {
    private static final Check CHECK = new Check("RoomTest");
    private static final ThreadMXBean BEAN = (ThreadMXBean) ManagementFactory.getThreadMXBean();
    private static final int LARGEST_OBJECT = 30000;
    private static final int SLACK = 2000;

    public static void main(String[] args) {
        BEAN.setThreadAllocatedMemoryEnabled(true);
        run(new CrossOrName());
        long start = allocated();
        CrossOrName x = new CrossOrName();
        long made = allocated();
        run(x);
        long done = allocated();
        CHECK.due("an object of less than " + LARGEST_OBJECT + " bytes", made - start < LARGEST_OBJECT ? 1 : 0, 1);
        CHECK.due("calls that make nothing, not " + (done - made) + " bytes", done - made < SLACK ? 1 : 0, 1);
        CHECK.finish();
    }

    private static long allocated() {
        return BEAN.getThreadAllocatedBytes(Thread.currentThread().getId());
    }

    private static void run(CrossOrName x) {
        for (int p = 0; p < 12; p++) {
            x.feed(0x7061726973682039L);
            x.feed(0x3b20202020202020L);
        }
        x.feed(0x636c65726b203020L);
        x.feed(0x3020393020302030L);
        x.land();
        x.land();
        for (int p = 0; p < 12; p++) {
            x.feed(0x7061726973682039L);
            x.feed(0x3b20202020202020L);
        }
        x.land();
        for (int m = 0; m < 40; m++) {
            x.marry(m % 12, m * 2, m % 8, m % 2, m % 3 % 2);
            x.set(m, 0, 3, m % 7);
            x.set(m, 0, 1, m % 4 == 0 ? 0 : 20 + m % 20);
        }
        for (int round = 0; round < 4; round++) {
            x.set(3, 0, 2, round);
            askAll(x, round);
        }
    }

    private static void askAll(CrossOrName x, int round) {
        x.choose(round % 2, 4095, 0, 89 - round, 3, 255);
        x.kind(0, 0);
        x.writer(0, 0);
        x.clerk(0, 5);
        x.many(0, 11);
        x.share(0, round % 2);
        x.best(0, round, 1, 0);
        x.pairs(0, round);
        x.spared(0, 0);
        x.learnt(0, -60, 20, round);
        x.bounds(0, -60, 20, round);
        x.tens(0, 0);
        x.span(4095, round);
        x.next(round);
        x.enough(1, 2 + round, 1);
        x.reading(0, 0);
        x.unwed(0, round);
        x.parts(round, 2);
        x.worth(0, 30, 0);
        x.person(1, round);
        x.twice(round % 3);
        x.find(0, round, 0);
        x.keep(0);
        x.back(0);
        x.sheet(round, round % 3, 60);
        x.lay(round, 3, 5);
        x.tear(39);
        x.read(round, round % 3, 10, 1);
    }
}
