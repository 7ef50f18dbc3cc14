import com.sun.management.ThreadMXBean;
import java.lang.management.ManagementFactory;

/** A run of 512 calls of the dearest kinds stays far below the room of a run: 7.3 million elements are some 29 MB of ints. */
public final class RoomTest {
    private static final long MOST_BYTES = 2_000_000;
    private static final ThreadMXBean THREADS = (ThreadMXBean) ManagementFactory.getThreadMXBean();

    public static void main(String[] args) {
        newObjects();
        commits();
        moves();
        checks();
        marks();
        Run.end();
    }

    private static long used() {
        return THREADS.getThreadAllocatedBytes(Thread.currentThread().getId());
    }

    private static void room(String what, long from) {
        long bytes = used() - from;
        System.out.println(what + ": " + bytes + " bytes");
        Run.due("room", what, String.valueOf(bytes <= MOST_BYTES), "true");
    }

    private static CommitTree large() {
        CommitTree x = new CommitTree();
        x.begin();
        for (int name = 1; name <= 15; name++) {
            x.make(0, name, false);
            x.append(0, name, 1);
        }
        x.commit(0);
        return x;
    }

    private static void newObjects() {
        long from = used();
        for (int n = 0; n < 50; n++) {
            new CommitTree();
        }
        room("50 new objects", from);
    }

    private static void commits() {
        CommitTree x = large();
        long from = used();
        for (int n = 1; n <= 32; n++) {
            x.begin();
            for (int name = 1; name <= 12; name++) {
                x.write(0, name, 0, n + 1);
            }
            x.commit(0);
        }
        room("32 commits of 12 words", from);
    }

    private static void moves() {
        CommitTree x = large();
        x.begin();
        x.remove(0, 15);
        x.make(0, 15, true);
        long from = used();
        for (int n = 0; n < 225; n++) {
            x.move(0, 1, 0xF1);
            x.move(0, 0xF1, 1);
        }
        room("450 moves", from);
    }

    private static void checks() {
        CommitTree x = large();
        x.begin();
        for (int name = 1; name <= 15; name++) {
            x.append(0, name, 2);
        }
        long from = used();
        for (int n = 0; n < 450; n++) {
            x.check(0);
        }
        room("450 checks", from);
    }

    private static void marks() {
        CommitTree x = large();
        x.begin();
        long from = used();
        for (int n = 0; n < 225; n++) {
            x.mark(0);
            x.back(0);
        }
        room("450 marks and backs", from);
    }
}
