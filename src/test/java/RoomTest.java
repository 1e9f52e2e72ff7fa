import com.sun.management.ThreadMXBean;
import java.lang.management.ManagementFactory;

/** All calls of a run live in one room: an object is made of few rows, and its calls make nothing. */
public final class RoomTest {
    /** What the machine itself may make meanwhile; a single row made by each call would be far more. */
    private static final long ROOM = 8192;
    private static final int CALLS = 500;

    private static final ThreadMXBean THREADS = (ThreadMXBean) ManagementFactory.getThreadMXBean();

    public static void main(String[] args) {
        fullHouse().digest();
        long before = THREADS.getCurrentThreadAllocatedBytes();
        MirrorClerks x = fullHouse();
        long made = THREADS.getCurrentThreadAllocatedBytes() - before;
        Check.isTrue("an object of " + made + " bytes is small", made < ROOM);
        Check.isTrue("digest() makes nothing: " + bytesOfDigests(x), bytesOfDigests(x) < ROOM);
        Check.isTrue("what would be makes nothing: " + bytesOfPlans(x), bytesOfPlans(x) < ROOM);
        Check.end("RoomTest");
    }

    private static MirrorClerks fullHouse() {
        MirrorClerks x = Check.houseOf(".m.b,m.b.,.m.m;9");
        for (int number = 0; number < 3; number++) {
            x.clerk(0, number);
            x.person(5);
        }
        for (int step = 0; step < 8; step++) {
            x.ledger(MirrorClerks.NONE);
        }
        return x;
    }

    private static long bytesOfDigests(MirrorClerks x) {
        long before = THREADS.getCurrentThreadAllocatedBytes();
        for (int call = 0; call < CALLS; call++) {
            x.digest();
        }
        return THREADS.getCurrentThreadAllocatedBytes() - before;
    }

    private static long bytesOfPlans(MirrorClerks x) {
        long before = THREADS.getCurrentThreadAllocatedBytes();
        for (int call = 0; call < CALLS; call++) {
            x.walk(0, 0, 0);
            x.tilt(0, 1);
            x.days(60, call, 0);
            x.image();
            x.restore();
        }
        return THREADS.getCurrentThreadAllocatedBytes() - before;
    }
}
