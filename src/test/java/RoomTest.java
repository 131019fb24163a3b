import com.sun.management.ThreadMXBean;
import java.lang.management.ManagementFactory;

/** All calls of a run live in one room: an object and its dearest 512 calls take little of it. */
public final class RoomTest {
    private static final long MOST_BYTES = 40_000;

    public static void main(String[] args) {
        ThreadMXBean threads = (ThreadMXBean) ManagementFactory.getThreadMXBean();
        use();
        long thread = Thread.currentThread().getId();
        long before = threads.getThreadAllocatedBytes(thread);
        use();
        long taken = threads.getThreadAllocatedBytes(thread) - before;
        Due due = new Due("room");
        due.isSo(taken + " bytes are at most " + MOST_BYTES, taken <= MOST_BYTES);
        due.end();
    }

    private static void use() {
        MayReadPencil x = new MayReadPencil();
        for (int one = 0; one < 6; one++) {
            x.comes(one, 9 - one);
            for (int i = 0; i < 8; i++) {
                x.tells(one, 8 * one + i - one);
            }
        }
        for (int i = 0; i < 20; i++) {
            x.image();
            x.days(2);
            x.forbids(i);
            x.letHer(1, 30, 0);
            x.rubberFor(1, 9, 60);
            x.ink(9, 30);
            x.friendFor(0, 1, 39, 1);
            x.swap(30);
            x.shade(60);
            x.row(3);
            x.toWhom(0, 1);
            x.whatKind(0, 0);
            x.two(0, 1, 30);
            x.damp(1, 9, 7, 20, 0);
            x.lots(20, 7, 0);
            x.bag(0);
            x.bag(1);
            x.feed('d');
            x.post();
            x.back();
            x.restore();
        }
    }
}
