import com.sun.management.ThreadMXBean;
import java.io.IOException;
import java.lang.management.ManagementFactory;
import java.nio.file.Path;

/**
 * All calls of a run share one room, so the class says that no call makes an object: 512 of the dearest
 * calls, on an object that is full, may take no more of the machine's memory than the measuring does.
 */
public final class RoomTest {
    private static final Due due = new Due("RoomTest");
    private static final ThreadMXBean MEMORY = (ThreadMXBean) ManagementFactory.getThreadMXBean();
    /** A kind of call is made at least 20 times, and the least object has 16 bytes. */
    private static final long MEASURING = 256;
    private static final long MOST_OF_AN_OBJECT = 60000;

    /** Measures in a machine that only interprets: a compiling one may leave out objects that the class makes. */
    public static void main(String[] args) throws IOException, InterruptedException {
        if (args.length == 0) {
            String java = Path.of(System.getProperty("java.home"), "bin", "java").toString();
            String here = System.getProperty("java.class.path");
            System.exit(new ProcessBuilder(java, "-Xint", "-cp", here, "RoomTest", "measure").inheritIO().start().waitFor());
        }
        // The first time, the machine loads what it needs for the calls.
        aRun(new TreeHashes());
        TreeHashes x = new TreeHashes();
        long before = MEMORY.getCurrentThreadAllocatedBytes();
        aRun(x);
        long taken = MEMORY.getCurrentThreadAllocatedBytes() - before;
        due.is("bytes of memory for 512 calls: " + taken, taken <= MEASURING ? 1 : 0, 1);
        before = MEMORY.getCurrentThreadAllocatedBytes();
        TreeHashes y = new TreeHashes();
        taken = MEMORY.getCurrentThreadAllocatedBytes() - before;
        due.is("bytes of memory for an object: " + taken, taken <= MOST_OF_AN_OBJECT ? 1 : 0, 1);
        due.is("size(0) of a new one", y.size(0), 0);
        due.end();
    }

    /** 12 calls that fill the object, and 20 times 25. */
    private static void aRun(TreeHashes x) {
        for (int times = 0; times < 8; times++) {
            x.fill(0, 5000, times, 1);
        }
        for (int times = 0; times < 4; times++) {
            x.grow(5000, times, 1);
        }
        for (int times = 0; times < 20; times++) {
            everyCall(x, times);
        }
    }

    private static void everyCall(TreeHashes x, int times) {
        x.output(0, 1, 200, times);
        x.take(1, 1);
        x.begin(2, 2, 1);
        x.clear(1);
        for (int i = 0; i < 4; i++) {
            x.add(1, 8, i);
        }
        x.begin(3, 1, 1);
        x.fill(3, 5000, times, 1);
        x.copy(0, 2);
        x.told(2, 3);
        x.chain(2, 0, 0);
        x.size(1);
        x.at(1, 0);
        x.root(4);
        x.prove(times);
        x.check(4, 20000, times);
        x.proof(1100);
        x.forge(0, 1);
        x.check(4, 20000, times);
        x.cut(1000);
        x.spoil(times, 1);
        x.shorten(19000);
        x.grow(1000, 0, 1);
    }
}
