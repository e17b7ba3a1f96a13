import com.sun.management.ThreadMXBean;
import java.lang.management.ManagementFactory;

/** How much of the room an object takes, and the calls that make the longest texts. */
public final class RoomTest extends Checks {
    private static final long OBJECT_BYTES = 60_000;
    private static final long CALL_BYTES = 1_500;
    private static final int ROUNDS = 80;
    private static final int CALLS_A_ROUND = 6;

    private static final ThreadMXBean THREADS = (ThreadMXBean) ManagementFactory.getThreadMXBean();
    private static int wrong = 0;

    public static void main(String[] args) {
        Swaphouse x = allMoves(7);
        ask(x);
        long atStart = used();
        x = allMoves(7);
        long made = used();
        for (int i = 0; i < ROUNDS; i++) {
            ask(x);
        }
        long asked = used();
        atMost("an object", made - atStart, OBJECT_BYTES);
        atMost("a call", (asked - made) / (ROUNDS * CALLS_A_ROUND), CALL_BYTES);
        System.out.println("RoomTest: " + (made - atStart) + " bytes an object, "
                + (asked - made) / (ROUNDS * CALLS_A_ROUND) + " bytes a call of the dearest");
        if (wrong != 0) {
            System.exit(1);
        }
    }

    private static void ask(Swaphouse x) {
        x.digest();
        x.list(63, 5000);
        x.text(0);
        x.rings(5);
        x.colourings(63, 3, 1);
        x.isIn(63, 0, 1);
    }

    private static long used() {
        return THREADS.getThreadAllocatedBytes(Thread.currentThread().getId());
    }

    private static void atMost(String what, long bytes, long most) {
        if (bytes > most) {
            wrong++;
            System.out.println(what + " takes " + bytes + " bytes, at most due are " + most);
        }
    }
}
