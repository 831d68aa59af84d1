import com.sun.management.ThreadMXBean;
import java.lang.management.ManagementFactory;

/** All calls of one run share one room, so 512 calls of one object, of whichever sort, may take but little of it. */
public final class RoomTest extends Due {
    /** A run has room for 7.3 million fields and elements: a hundredth of them, were each but a byte. */
    private static final long MOST_BYTES = 73000;
    private static final int ROUNDS = 500 / 8;
    private static final String LONG_TEXT = "0-(h>10)*(t%3)-(d=2)*(h/9)+(t<4)*!(d>5)";
    private static final String[] SORTS = {"a new object", "what would be", "TEXTS and what would be", "KINDS and what would be",
        "images of other KINDS", "days by draws", "voices and sheets"};
    private static final ThreadMXBean THREADS = (ThreadMXBean) ManagementFactory.getThreadMXBean();

    public static void main(String[] args) {
        if (!THREADS.isThreadAllocatedMemorySupported()) {
            System.out.println("this machine doesn't tell how much room is taken");
            return;
        }
        // What the machine makes at the first use of a class isn't the object's.
        taken(0);
        for (int sort = 0; sort < SORTS.length; sort++) {
            long bytes = taken(sort);
            due(SORTS[sort] + " took " + bytes + " bytes, which is little", bytes <= MOST_BYTES ? 1 : 0, 1);
        }
        end();
    }

    private static long taken(int sort) {
        long thread = Thread.currentThread().getId();
        long before = THREADS.getThreadAllocatedBytes(thread);
        FelledByNames x = new FelledByNames();
        if (sort > 0) {
            for (int i = 0; i < 8; i++) {
                x.tree(i % 7 * 10 + 9, 10 * (i % 6) + (i + 1) % 6, i, 90 - i);
            }
            for (int round = 0; round < ROUNDS; round++) {
                callEightTimes(x, sort, round);
            }
        }
        return THREADS.getThreadAllocatedBytes(thread) - before;
    }

    private static void callEightTimes(FelledByNames x, int sort, int round) {
        switch (sort) {
            case 1:
                x.about(255, 30);
                x.gossip(round % 8, 30);
                x.keeper(30, 0);
                x.odds(round % 8, 60, 0);
                x.safe(60);
                x.then(60, 0, 1);
                x.order(0);
                x.down(60);
                break;
            case 2:
                read(x, 0, LONG_TEXT);
                x.about(255, 30);
                break;
            case 3:
                for (int i = 0; i < 4; i++) {
                    x.become(i, (round + i) % 7 * 10);
                    x.about(255, 30);
                }
                break;
            case 4:
                for (int i = 0; i < 2; i++) {
                    x.become(i, (round + i) % 7 * 10);
                    x.image();
                    x.become(i + 2, (round + i) % 7 * 10);
                    x.restore();
                }
                break;
            case 5:
                for (int i = 0; i < 4; i++) {
                    x.loose(40);
                    x.change(i, 2, 1);
                }
                break;
            default:
                for (int i = 0; i < 4; i++) {
                    x.voice(i, 3, round);
                    x.sheet(i, 32, 40);
                }
        }
    }
}
