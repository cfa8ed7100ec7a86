import java.lang.management.ManagementFactory;

/** All calls live in one room: an object with all its calls makes few things, and asking makes none. */
public final class RoomTest {
    private static final long BYTES_OF_AN_OBJECT = 20000;

    public static void main(String[] args) {
        runOnce(1);
        long before = made();
        runOnce(2);
        long all = made() - before;
        Script.due("512 calls make at most " + BYTES_OF_AN_OBJECT + " bytes (" + all + ")", all <= BYTES_OF_AN_OBJECT ? 1 : 0, 1);
        Script.end();
    }

    private static void runOnce(int seed) {
        LoanHouse house = new LoanHouse();
        for (int i = 0; i < 16; i++) {
            house.copy(i % 6, i % 4);
        }
        for (int i = 0; i < 80; i++) {
            house.drift(20, seed + i);
            house.keep(i % 2);
            house.told(i % 16);
            house.holdOf(i, 8);
            house.pass(1);
            house.undo();
        }
        house.goBack(0);
    }

    private static long made() {
        com.sun.management.ThreadMXBean threads = (com.sun.management.ThreadMXBean) ManagementFactory.getThreadMXBean();
        return threads.getThreadAllocatedBytes(Thread.currentThread().getId());
    }
}
