import java.lang.management.ManagementFactory;

/**
 * What a run of calls makes stays small: all calls of one run live in one room. The dearest
 * calls are made 512 times each, and the memory that they ask for is held against a bound far
 * below the room's.
 */
public final class RoomTest {
    private static final long BOUND = 2_000_000L;

    public static void main(String[] args) {
        largeTown();
        manyDesks();
        Due.end();
    }

    private static long asked() {
        com.sun.management.ThreadMXBean threads =
                (com.sun.management.ThreadMXBean) ManagementFactory.getThreadMXBean();
        return threads.getThreadAllocatedBytes(Thread.currentThread().getId());
    }

    private static void largeTown() {
        long before = asked();
        GreenDesk desk = new GreenDesk();
        for (int k = 0; k < 8; k++) {
            desk.junction();
            for (int i = 0; i < 8; i++) {
                desk.stream(k, 0, 400 * i, 1800, 4);
            }
            desk.against(k, 0, 1, 3, 3);
            for (int i = 0; i < 8 && k > 0; i++) {
                desk.street(k, i, k - 1, i, 60, 60);
            }
        }
        for (int call = 0; call < 512; call++) {
            int k = call % 8;
            desk.plan(k, 90);
            desk.stage(k, 1 + 4 + 16, 21);
            desk.stage(k, 2 + 8 + 32, 21);
            desk.stage(k, 1 + 64, 21);
            desk.stage(k, 2 + 128, 21);
            desk.share(k);
            desk.fit(k, 90);
            desk.take(k, 5);
            desk.sets(k);
            desk.set(k, 1);
            desk.run(100);
            desk.check(k, 1, desk.count(1) - 1);
            desk.width(0, 1, 2, 0, 111, 5, 5, 0);
            desk.wave(0, 1, 2, 0, 111, 5, 5, 0);
        }
        long used = asked() - before;
        Due.due("bytes asked for in a large town: " + used, used < BOUND, true);
    }

    private static void manyDesks() {
        long before = asked();
        for (int k = 0; k < 64; k++) {
            GreenDesk desk = new GreenDesk();
            desk.junction();
            desk.stream(0, 0, 0, 600, 4);
        }
        long used = asked() - before;
        Due.due("bytes asked for by 64 desks: " + used, used < BOUND, true);
    }
}
