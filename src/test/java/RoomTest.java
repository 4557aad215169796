import com.sun.management.ThreadMXBean;
import java.lang.management.ManagementFactory;

/** A run's calls share one room: the dearest of them must make next to nothing. */
public final class RoomTest {
    private static final ThreadMXBean THREADS = (ThreadMXBean) ManagementFactory.getThreadMXBean();
    // A tenth of 7.3 million fields and elements of four bytes.
    private static final long MOST_BYTES = 2900000;

    public static void main(String[] args) {
        dearestCalls(136);
        long before = THREADS.getCurrentThreadAllocatedBytes();
        dearestCalls(512);
        long made = THREADS.getCurrentThreadAllocatedBytes() - before;
        Check.yes("512 calls made " + made + " bytes", made < MOST_BYTES);
        Check.finish();
    }

    private static void dearestCalls(int calls) {
        PracticeGround ground = new PracticeGround();
        String longest = "while 1{r=" + "r+".repeat(54) + "1}";
        for (int i = 0; i < 10; i++) {
            ground.task(0, 1 << i % 8);
            ground.world(i, 0, 0, 0);
        }
        for (int i = 0; i < 10; i++) {
            Texts.read(ground, "r=" + "0+".repeat(57) + i + "-" + i);
            ground.attempt(0, i % 8, false);
        }
        // 110 calls so far, and 13 a turn: a text of six feeds, its end and read, and five more.
        for (int done = 110; done + 13 <= calls; done += 13) {
            Texts.read(ground, longest);
            ground.run(0, 0, 0);
            ground.attempt(1, 0, false);
            ground.hint(0, 4);
            ground.wish(7, 7);
            ground.next(0);
        }
    }
}
