import java.lang.management.ManagementFactory;

/** All calls of a run live in one room: a new object is small, and no call makes anything. */
public final class RoomTest {
    private static final int TRIES = 5;
    private static final long MOST_BYTES_OF_AN_OBJECT = 32_000;
    private static final long MOST_BYTES_OF_CALLS = 256;

    private RoomTest() {
    }

    public static void main(String[] args) {
        if (!(ManagementFactory.getThreadMXBean() instanceof com.sun.management.ThreadMXBean threads)
                || !threads.isThreadAllocatedMemorySupported()) {
            System.out.println("this Java can't count what a thread makes");
            return;
        }
        threads.setThreadAllocatedMemoryEnabled(true);
        long me = Thread.currentThread().getId();
        long leastOfObject = Long.MAX_VALUE;
        long leastOfCalls = Long.MAX_VALUE;
        // The least of several tries: what Java itself makes at the first ones doesn't count.
        for (int i = 0; i < TRIES; i++) {
            long before = threads.getThreadAllocatedBytes(me);
            QueryFleet x = new QueryFleet();
            long made = threads.getThreadAllocatedBytes(me);
            useWholeFace(x);
            long used = threads.getThreadAllocatedBytes(me);
            leastOfObject = Math.min(leastOfObject, made - before);
            leastOfCalls = Math.min(leastOfCalls, used - made);
        }
        Check.due("a new object of " + leastOfObject + " bytes is small", leastOfObject <= MOST_BYTES_OF_AN_OBJECT, true);
        Check.due("bytes made by calls, " + leastOfCalls + ", are none", leastOfCalls <= MOST_BYTES_OF_CALLS, true);
        Check.end();
    }

    // Full tables whose rows all pair: the dearest start that there is.
    private static void useWholeFace(QueryFleet x) {
        for (int i = 0; i < 12; i++) {
            x.row(0, 1, i, 0);
            x.row(1, 1, i, 0);
        }
        x.from(1, 0, 1, 0, 0);
        for (int i = 0; i < 6; i++) {
            x.column(1);
            x.column(3);
            x.operate(5);
            x.operate(8);
            x.column(i % 4);
            x.operate(9);
            x.operate(7);
            x.where();
        }
        x.column(3);
        x.output(3);
        x.output(1);
        x.group(1);
        x.order(1, true, 5);
        x.start(4, 3);
        x.pass(0, 2);
        x.pass(0, 1);
        x.crash(0);
        for (int i = 0; i < 8; i++) {
            x.tick();
            Check.deliverAndWork(x);
        }
        for (int i = 0; i < 4; i++) {
            x.ended(i);
            x.cell(0, i);
            x.missing(0, i);
            x.task(0, i);
        }
    }
}
