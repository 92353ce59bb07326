import java.lang.management.ManagementFactory;

/** All calls of a run live in one room: after an object is made, its calls make nothing new. */
public final class RoomTest {
    private static final long OBJECT_ROOM = 40_000;
    private static final long CALLS_ROOM = 40_000;

    public static void main(String[] args) {
        boolean right = true;
        for (int revision = 2; revision <= 5; revision++) {
            run(revision);
            long before = room();
            CryptRows x = new CryptRows(revision);
            long made = room();
            calls(x);
            long after = room();
            if (made - before > OBJECT_ROOM || after - made > CALLS_ROOM) {
                System.out.println("revision " + revision + ": " + (made - before) + " bytes for the object, "
                    + (after - made) + " for its calls");
                right = false;
            }
        }
        System.exit(right ? 0 : 1);
    }

    private static void run(int revision) {
        calls(new CryptRows(revision));
    }

    private static void calls(CryptRows x) {
        for (int k = 0; k < 17; k++) {
            x.tape(k);
        }
        x.word('u', false);
        x.word('o', true);
        x.make(-4);
        for (int k = 0; k < 60; k++) {
            x.tape(k);
            x.open('o');
            x.open(-1);
            x.key(k, 0);
            x.apply(k, k % 2 == 1, (byte) k);
            x.digest(k % 2);
            x.told(3);
            x.end();
        }
    }

    private static long room() {
        com.sun.management.ThreadMXBean threads =
            (com.sun.management.ThreadMXBean) ManagementFactory.getThreadMXBean();
        return threads.getThreadAllocatedBytes(Thread.currentThread().getId());
    }
}
