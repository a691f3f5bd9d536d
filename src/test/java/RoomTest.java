import java.lang.management.ManagementFactory;
import java.util.function.IntConsumer;

/** How much a run of 512 calls makes: all calls of one run live in one room. */
public final class RoomTest {
    private static final com.sun.management.ThreadMXBean THREADS =
            (com.sun.management.ThreadMXBean) ManagementFactory.getThreadMXBean();
    private static final int BYTES_OF_AN_OBJECT = 64 * 1024;
    /** Not 0, for the machine itself makes a little when code is run first. */
    private static final int BYTES_OF_A_RUN = 64 * 1024;

    public static void main(String[] args) {
        new BeatQueues().chance(1, 60, 2, 3);
        long before = made();
        BeatQueues q = new BeatQueues();
        Check.holds("a new object makes at most " + BYTES_OF_AN_OBJECT, made() - before <= BYTES_OF_AN_OBJECT);
        Check.text(q, "row 16;levels 4;buckets 8 8;" + "put a 500;".repeat(30) + "both b 3;take;cancel a;renew a 5;");
        q.run(30);
        run("beats", i -> q.put(i, i & 31));
        run("plan", i -> { q.run(4); q.undo(); q.undo(); q.undo(); q.undo(); });
        run("drained", i -> q.drained(i & 3, 30, 0));
        run("unlike", i -> q.unlike(i & 3, i >> 2 & 3));
        run("differs", i -> q.differs(40, i & 3, i >> 2 & 3));
        run("leastRow", i -> q.leastRow(i & 1));
        run("leastLevels", i -> q.leastLevels());
        run("leastDeep", i -> q.leastDeep());
        run("lands", i -> q.lands(i & 3, i));
        run("chance", i -> q.chance(i, 60, i & 3, 3));
        run("images", i -> { q.keep(); q.back(); });
        run("texts", i -> { q.feed(0x70757420, 0x6120353b, 0x74616b65, 0x3b202020, 0x20202020); q.text(16); });
        run("faults", i -> { q.feed(0x70757420, 0x6120353b, 0x74616b65, 0x3b202020, 0x80ff00aa); q.text(20); });
        Check.end();
    }

    private static long made() {
        return THREADS.getThreadAllocatedBytes(Thread.currentThread().getId());
    }

    private static void run(String what, IntConsumer call) {
        call.accept(0);
        long before = made();
        for (int i = 0; i < 512; i++) {
            call.accept(i);
        }
        long bytes = made() - before;
        Check.holds(what + ": 512 calls made " + bytes + " bytes", bytes <= BYTES_OF_A_RUN);
    }
}
