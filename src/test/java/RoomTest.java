import java.lang.management.ManagementFactory;

/** The room of a run: 512 of the dearest calls of one object, measured by what their thread takes of the heap. */
public final class RoomTest {
    private static final Due due = new Due("RoomTest");
    private static final com.sun.management.ThreadMXBean HEAP =
            (com.sun.management.ThreadMXBean) ManagementFactory.getThreadMXBean();
    // 7.3 million elements are far more bytes than this.
    private static final long MOST = 6_000_000;

    private static WordBench x;

    public static void main(String[] args) {
        x = new WordBench();
        x.ring(0, 2, 12, 1);
        x.ring(1, 4, 6, 1);
        x.make(2, 0, 2, 10);
        for (int k = 0; k < 200; k++) {
            x.add(2, 5 * k);
        }
        x.ring(3, 2, 7, 1);
        x.list(3, 4);
        x.keep(0, 4, 2, 0);
        room("make", () -> x.make(5, 0, 5, 12));
        room("ring", () -> x.ring(5, 5, 12, 1));
        room("in", () -> x.in(1, 99));
        room("form", () -> x.form(1));
        room("head", () -> x.head(1, 3));
        room("dual", () -> x.dual(0, 6));
        room("dual there and back", () -> x.dual(6, 6));
        room("checks", () -> x.checks(1, 99));
        room("weights of a LINE", () -> x.weights(0, 6));
        room("weights of a LISTED one", () -> x.weights(2, 3));
        room("law", () -> x.law(0, 6));
        room("law refused", RoomTest::refusedLaw);
        room("read", () -> x.read(1, 99, 5));
        room("cover", () -> x.cover(2));
        room("whole", () -> x.whole(2));
        room("longer", () -> x.longer(2, 7));
        room("cut", () -> x.cut(2, 9, 7));
        room("shorter", () -> x.shorter(2, 3, 7));
        room("join", () -> x.join(1, 1, 2, 7));
        room("list", () -> x.list(3, 7));
        room("turn", () -> x.turn(2, 0x9876543210L, 1, 7));
        room("same", () -> x.same(3, 4));
        room("keep a CODE", () -> x.keep(1, 1, 2, 0));
        room("keep words", () -> x.keep(1, 4, 2, 0));
        room("row", () -> x.row(1, 4, 60));
        room("copy", () -> x.copy(0, 0, 0, 1, 199));
        room("toss", () -> x.toss(1));
        due.end();
    }

    private static void refusedLaw() {
        try {
            x.law(0, 13);
        } catch (IllegalArgumentException thrown) {
            return;
        }
    }

    private static void room(String call, Runnable run) {
        run.run();
        long before = HEAP.getThreadAllocatedBytes(Thread.currentThread().getId());
        for (int k = 0; k < 512; k++) {
            run.run();
        }
        long taken = HEAP.getThreadAllocatedBytes(Thread.currentThread().getId()) - before;
        System.out.println("  512 times " + call + ": " + taken + " bytes");
        due.is(call + ": " + taken + " bytes are few enough", taken <= MOST ? 1 : 0, 1);
    }
}
