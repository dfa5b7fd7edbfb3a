import java.lang.management.ManagementFactory;

/** What an object and its calls take of the room: rows are made once, and calls make next to nothing. */
public final class RoomTest {
    private static final com.sun.management.ThreadMXBean THREADS =
            (com.sun.management.ThreadMXBean) ManagementFactory.getThreadMXBean();
    private static final Check check = new Check();

    public static void main(String[] args) {
        run(new TouchLeague());
        long before = THREADS.getCurrentThreadAllocatedBytes();
        TouchLeague x = new TouchLeague();
        long made = THREADS.getCurrentThreadAllocatedBytes();
        run(x);
        long used = THREADS.getCurrentThreadAllocatedBytes();
        check.holds("a new object takes little: " + (made - before), made - before < 40000);
        check.holds("512 calls and two images take little: " + (used - made), used - made < 80000);
        check.finish();
    }

    private static void run(TouchLeague x) {
        for (int i = 0; i < 16; i++) {
            x.fencer(i % 3, i % 2, i + 1);
        }
        for (int i = 0; i < 8; i++) {
            x.referee(9, 5);
        }
        x.pool(127);
        for (int i = 0; i < 60; i++) {
            x.bout(i % 7, (i + 1) % 7, 0, 5, 100, 0);
            x.end(i);
            x.result(i % 16, 5, i, 5);
        }
        x.write(0, 'w');
        for (int i = 0; i < 25; i++) {
            x.hangs(i);
            x.beside(0, 0, 0);
            x.ladder(65535, 4, 0);
            x.apart(4095, 3, -1);
            x.service(255, 0);
            x.bestOrder();
            x.ranking(0, 5, 5, 1);
            x.habit(0, 3);
            x.image(i % 2);
            x.from(i % 2);
            x.digest();
        }
    }
}
