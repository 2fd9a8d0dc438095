import java.lang.management.ManagementFactory;

/** How much runs of the dearest calls make: all calls of a run live in one room. */
public final class RoomTest {
    private static final Check CHECK = new Check();
    private static final com.sun.management.ThreadMXBean ROOM =
        (com.sun.management.ThreadMXBean) ManagementFactory.getThreadMXBean();

    public static void main(String[] args) {
        // Once ahead, so that what the machine loads isn't counted.
        run(0);
        run(1);
        made(() -> new QuarterWalks());
        CHECK.due("a new object is small", made(() -> new QuarterWalks()) < 500_000, true);
        CHECK.due("asking makes little", made(() -> run(0)) < 1_000_000, true);
        CHECK.due("a new SERIES each other call stays small", made(() -> run(1)) < 3_000_000, true);
        CHECK.close();
    }

    private static long made(Runnable calls) {
        long ahead = ROOM.getThreadAllocatedBytes(Thread.currentThread().getId());
        calls.run();
        return ROOM.getThreadAllocatedBytes(Thread.currentThread().getId()) - ahead;
    }

    private static void run(int changing) {
        QuarterWalks q = new QuarterWalks();
        q.feed(0x6E206E65, 0x20652073, 0x65207320, 0x73772077, 0x206E7700);
        q.tell();
        for (int i = 0; i < 250; i++) {
            if (changing == 1) {
                q.start(0, i % 10, 3);
            }
            ask(q, i);
        }
    }

    private static void ask(QuarterWalks q, int i) {
        switch (i % 10) {
            case 0:
                q.series(0, 0, 60);
                break;
            case 1:
                q.equation(0, 0, 3, 6, 3, 6);
                break;
            case 2:
                q.least(0, 0, 1);
                break;
            case 3:
                q.at(2, 0, 60, 1, 1);
                break;
            case 4:
                q.walk(0, 10, 3, 3, 5, 5);
                break;
            case 5:
                q.enough(0);
                break;
            case 6:
                q.written(0, 3);
                break;
            case 7:
                q.arches(0, 60);
                break;
            case 8:
                q.recurrence(0, 0, 4, 4, 1, 1);
                break;
            default:
                q.orbit(0, 2, 3, 1, 1);
        }
    }
}
