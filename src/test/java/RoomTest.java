import java.lang.management.ManagementFactory;

/** All calls of one run live in one room, so the dearest runs of 512 calls may make but little. */
public final class RoomTest {
    private static final com.sun.management.ThreadMXBean THREADS =
            (com.sun.management.ThreadMXBean) ManagementFactory.getThreadMXBean();

    private static long made() {
        return THREADS.getThreadAllocatedBytes(Thread.currentThread().getId());
    }

    public static void main(String[] args) {
        room(new TableHouse());
        long start = made();
        TableHouse x = new TableHouse();
        long fresh = made() - start;
        System.out.println("a new object: " + fresh + " bytes");
        Check.due("a new object takes less than 30000 bytes", fresh < 30000, true);
        start = made();
        room(x);
        long run = made() - start;
        System.out.println("a run: " + run + " bytes");
        Check.due("a run takes less than 200000 bytes", run < 200000, true);
        quiet(x);
        Check.close();
    }

    /** Fills all that can come. */
    private static void room(TableHouse x) {
        for (int i = 0; i < 10; i++) {
            for (int k = 0; k < 10; k++) {
                x.feed(0x782a782b, 0x782a782b, 0x782a782b, 0x782a782b, 0x782a782b);
            }
            x.end(199);
            x.sheet();
        }
        for (int i = 0; i < 5; i++) {
            x.table(i, -10, 1001, 300);
        }
        for (int i = 0; i < 8; i++) {
            x.hand();
        }
        for (int i = 0; i < 24; i++) {
            x.habit(i % 8, i % 3, 12);
        }
        for (int i = 0; i < 20; i++) {
            x.row(1 << Math.min(i, 19));
        }
        x.rivals(3, 0);
    }

    /** What only asks makes nothing at all, or nearly so. */
    private static void quiet(TableHouse x) {
        long start = made();
        for (int i = 0; i < 512; i++) {
            x.feed(0x782a782b, 0x782a782b, 0x782a782b, 0x782a782b, 0x782a782b);
            x.fault();
            x.value(0, i, 1, 0);
            x.pair(0, 0);
            x.settings(0, 99);
            x.engine(0, 0, 4);
            x.turn(60);
            x.middle(1, 1, 2);
            x.bound(2);
            x.clear();
            x.lay(0, 0, 20);
            x.work(0, 0, 0, i % 30);
        }
        for (int i = 0; i < 20; i++) {
            x.clear();
            for (int k = 0; k < 20; k++) {
                x.row(1 << Math.min(k, 19));
            }
            x.suspects(3, i % 10);
            x.rivals(3, i % 10);
        }
        long asked = made() - start;
        System.out.println("asking: " + asked + " bytes");
        Check.due("asking takes less than 20000 bytes", asked < 20000, true);
    }
}
