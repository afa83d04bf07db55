import com.sun.management.ThreadMXBean;
import java.lang.management.ManagementFactory;

/** Calls make no objects, as all calls of a run share one room: only the constructor makes some, and few. */
public final class RoomTest {
    private static final long MOST_BYTES_OF_CALLS = 4_096;
    private static final long MOST_BYTES_OF_OBJECT = 40_000;

    private static final Checks CHECKS = new Checks();

    public static void main(String[] args) {
        if (!(ManagementFactory.getThreadMXBean() instanceof ThreadMXBean bean)
            || !bean.isThreadAllocatedMemorySupported()) {
            System.out.println("this machine does not tell what is made");
            return;
        }
        runCalls(new GraphTwins());
        long id = Thread.currentThread().getId();
        bean.getThreadAllocatedBytes(id);
        long before = bean.getThreadAllocatedBytes(id);
        GraphTwins x = new GraphTwins();
        long made = bean.getThreadAllocatedBytes(id);
        runCalls(x);
        long after = bean.getThreadAllocatedBytes(id);
        dueAtMost("bytes of an object", made - before, MOST_BYTES_OF_OBJECT);
        dueAtMost("bytes of 500 calls", after - made, MOST_BYTES_OF_CALLS);
        CHECKS.end();
    }

    private static void dueAtMost(String what, long got, long most) {
        if (got > most) {
            CHECKS.fail(what + ": " + got + ", at most " + most);
        }
    }

    private static void runCalls(GraphTwins x) {
        x.begin(9);
        for (int i = 0; i < 35; i++) {
            int u = i % 9;
            int v = i * i % 9;
            x.label(0, u, v, i % 4);
            x.tint(0, u, i % 2);
            x.copy(1);
            x.exchange(1, u, v);
            x.colours();
            x.colour(1, v);
            x.twins();
            x.image(v);
            x.next();
            x.symmetries(0);
            x.orbit(1, v);
            x.form(0, i);
            x.compare(1);
            x.count(2);
        }
    }
}
