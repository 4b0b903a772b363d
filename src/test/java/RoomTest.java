import com.sun.management.ThreadMXBean;
import java.lang.management.ManagementFactory;

/** What a run makes: the object with its arrays, and nothing in any call. */
public final class RoomTest {
    private static final Check CHECK = new Check("RoomTest");
    private static final ThreadMXBean THREADS = (ThreadMXBean) ManagementFactory.getThreadMXBean();
    private static final byte[] TEXT = "m=3.4;s=1.8;v=2t;d=3.5e;c6=1;h2=50%;l=1;g=5;o=3;c0=0".getBytes();

    public static void main(String[] args) {
        dearestCalls(new ToldFigures());
        long before = made();
        ToldFigures x = new ToldFigures();
        long between = made();
        dearestCalls(x);
        long after = made();
        System.out.println("RoomTest: the object " + (between - before) + " bytes, its calls " + (after - between));
        CHECK.due("an object is small", between - before < 100000);
        CHECK.due("calls make nothing", after - between < 1000);
        CHECK.end();
    }

    private static long made() {
        return THREADS.getThreadAllocatedBytes(Thread.currentThread().getId());
    }

    private static long dearestCalls(ToldFigures x) {
        long sum = x.set(0, 9);
        for (byte b : TEXT) {
            sum += x.type(b) + x.digest() + x.quarrel() + x.ways() + x.bound(-1, 1);
        }
        for (int s = 0; s < 4; s++) {
            sum += x.sheet(s, 2, 60) + x.write(s) + x.copies(s, 0, 0) + x.twice(s, 0) + x.shares(s, 0, 0);
            sum += x.sheet(s, 2, 12) + x.lastChance(s) + x.firstChance(s, 1) + x.copy(s, 0, 0, 0, 5) + x.lose(s);
        }
        return sum;
    }
}
