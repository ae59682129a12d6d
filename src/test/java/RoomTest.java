import java.lang.management.ManagementFactory;

/** All calls of a run share one room: the rows are made with the object, and the calls make none. */
public final class RoomTest {
    private static final com.sun.management.ThreadMXBean THREADS =
        (com.sun.management.ThreadMXBean) ManagementFactory.getThreadMXBean();

    public static void main(String[] args) {
        LentViews x = new LentViews();
        // The first rounds load and compile what the machine itself makes objects for.
        callAll(x, 200);
        long before = THREADS.getThreadAllocatedBytes(Thread.currentThread().getId());
        callAll(x, 2000);
        long made = THREADS.getThreadAllocatedBytes(Thread.currentThread().getId()) - before;
        Due.isTrue("40,000 calls make next to nothing: " + made + " bytes", made < 200_000);

        before = THREADS.getThreadAllocatedBytes(Thread.currentThread().getId());
        LentViews[] many = new LentViews[100];
        for (int i = 0; i < many.length; i++) {
            many[i] = new LentViews();
        }
        long each = (THREADS.getThreadAllocatedBytes(Thread.currentThread().getId()) - before) / many.length;
        Due.isTrue("an object takes some 30 KiB at most: " + each + " bytes", each < 40_000);
        Due.end();
    }

    private static void callAll(LentViews x, int rounds) {
        for (int i = 0; i < rounds; i++) {
            x.begins(2 + i % 3, 1 + i % 4, 2 + i % 7);
            x.scans(0);
            x.writes(1, i % 100);
            x.steps(0, 1 + i % 20);
            x.steps(1, 20);
            x.cell(1, 2);
            x.writer(0, 4);
            x.read(0, 1, 0);
            x.photo(0, 10);
            x.lone(0);
            x.byTurns();
            x.reads(6, 1);
            x.trial(4, 1, 4);
            x.sees(1, 4, 9);
            x.which();
            x.ask();
            x.forget();
            x.keep(i % 2);
            x.undo();
            x.back(i % 2);
            x.count(6);
        }
    }
}
