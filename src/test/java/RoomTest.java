import com.sun.management.ThreadMXBean;
import java.lang.management.ManagementFactory;

/** All rows are made with the hall: 511 of the dearest calls make nothing more. */
final class RoomTest {
    private static final long HALL_BYTES = 800_000;
    private static final long CALLS_BYTES = 20_000;

    public static void main(String[] args) {
        ThreadMXBean threads = (ThreadMXBean) ManagementFactory.getThreadMXBean();
        long self = Thread.currentThread().getId();
        callDearest(new Morphichall());
        long before = threads.getThreadAllocatedBytes(self);
        Morphichall hall = new Morphichall();
        long made = threads.getThreadAllocatedBytes(self);
        callDearest(hall);
        long after = threads.getThreadAllocatedBytes(self);
        Check.due("bytes of a hall: " + (made - before), made - before < HALL_BYTES, true);
        Check.due("bytes of its calls: " + (after - made), after - made < CALLS_BYTES, true);
        Check.end("RoomTest");
    }

    private static void callDearest(Morphichall hall) {
        Halls.fillRing(hall);
        hall.type('a');
        hall.type('a');
        for (int i = 0; i < 30; i++) {
            hall.not();
            hall.exists(3);
            hall.equal(0, 0);
            hall.join(true);
            hall.isSound();
            hall.pieces(0, 12);
            hall.piecesByCounts(0, 60);
            hall.kernel(1, 4);
            hall.least(0);
            hall.avoiders(3, 10);
            hall.path(0, 1000, 'n');
            hall.exponent(0, 120);
            hall.count(0, 1000);
        }
    }
}
