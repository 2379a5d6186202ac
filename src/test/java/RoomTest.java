import com.sun.management.ThreadMXBean;
import java.lang.management.ManagementFactory;

/** A run of the dearest calls stays far within the room of one run, and ends soon. */
public final class RoomTest {
    private static final Due D = new Due();
    /** The room is 7.3 million elements; this is what a tenth of it takes as ints. */
    private static final long BYTES = 4L * 730000;

    public static void main(String[] args) {
        ThreadMXBean threads = (ThreadMXBean) ManagementFactory.getThreadMXBean();
        long id = Thread.currentThread().getId();
        largestTown(1);
        long before = threads.getThreadAllocatedBytes(id);
        largestTown(450);
        long used = threads.getThreadAllocatedBytes(id) - before;
        D.due("a run on the largest story, " + used + " bytes", used <= BYTES ? 1 : 0, 1);
        before = threads.getThreadAllocatedBytes(id);
        manyTexts();
        used = threads.getThreadAllocatedBytes(id) - before;
        D.due("a run of texts and sheets, " + used + " bytes", used <= BYTES ? 1 : 0, 1);
        before = threads.getThreadAllocatedBytes(id);
        for (int n = 0; n < 512; n++) {
            new WalkTeller().told(0);
        }
        used = threads.getThreadAllocatedBytes(id) - before;
        D.due("512 objects, " + used + " bytes", used <= BYTES ? 1 : 0, 1);
        D.end();
    }

    /** Eight corners, fourteen ways, and stories of nine to twelve pieces that need few others. */
    private static void largestTown(int calls) {
        WalkTeller t = Due.corners(8);
        for (int n = 0; n < 14; n++) {
            t.way(n % 8, (n + 1 + n / 8) % 8, 1 + n, false);
        }
        String[] pieces = {"0t1;", "1t1;", "2t1;", "3t1;", "4t1;", "5t1;", "6t1;", "7t1;",
            "0t1b;", "1t1c;", "2t1d;", "3e1fghi;"};
        String text = String.join("", java.util.Arrays.copyOf(pieces, 8));
        for (int n = 8; n < 12; n++) {
            text += pieces[n];
            D.due("edition", Due.tell(t, text), n - 8);
        }
        t.walker(0, true);
        for (int n = 0; n < calls; n++) {
            D.due("check", t.check(3, n % 8, 0, true, 0) > 400 ? 1 : 0, 1);
        }
    }

    private static void manyTexts() {
        WalkTeller t = Due.corners(1);
        for (int n = 0; n < 128; n++) {
            Due.tell(t, "0p1;0p1;");
            t.sheet(n % 4, 32, 12);
            t.sheet(n % 4, 8, 12);
        }
    }
}
