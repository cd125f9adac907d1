import java.lang.management.ManagementFactory;

/** All calls of a run share one room: an object is small, a kept alarm too, and asking makes nothing new. */
public final class RoomTest {
    private static final com.sun.management.ThreadMXBean THREADS =
            (com.sun.management.ThreadMXBean) ManagementFactory.getThreadMXBean();
    private static final long ID = Thread.currentThread().getId();

    public static void main(String[] args) {
        Check check = new Check("RoomTest");
        fillAndAsk(new CryOrder());
        long start = THREADS.getThreadAllocatedBytes(ID);
        CryOrder x = new CryOrder();
        long made = THREADS.getThreadAllocatedBytes(ID);
        fill(x);
        long filled = THREADS.getThreadAllocatedBytes(ID);
        ask(x);
        long asked = THREADS.getThreadAllocatedBytes(ID);
        check.due("a new object takes under 16,000 bytes", made - start < 16_000, true);
        check.due("200 alarms and 60 pairs take under 100,000 bytes", filled - made < 100_000, true);
        check.due("asking takes next to nothing", asked - filled < 2_000, true);
        check.end();
    }

    private static void fillAndAsk(CryOrder x) {
        fill(x);
        ask(x);
    }

    private static void fill(CryOrder x) {
        for (int i = 0; i < 200; i++) {
            x.alarm(i % 10, i % 40, (i * 37) % 4096, 1 + i % 100);
        }
        for (int i = 0; i < 60; i++) {
            x.tie(i, 199 - i, i % 2 == 0);
            x.verdict(i, i % 10, true);
            x.verdict(i, (i + 1) % 10, true);
        }
    }

    private static void ask(CryOrder x) {
        for (int i = 0; i < 100; i++) {
            x.set(1, 1 + i % 20);
            x.set(2, i % 6);
            x.order(i);
            x.told(i, 12);
            x.told(i, 9);
            x.odds(i, i % 6);
            x.node(i % 5, i, i % 3);
            x.caseOf(i, 11);
            x.slow(i % 40);
            x.plan(i * 3, 2);
            x.worth(i * 3, 1);
            x.source(i % 10, i % 7);
            x.count(i % 6);
        }
    }
}
