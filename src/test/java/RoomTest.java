import com.sun.management.ThreadMXBean;
import java.lang.management.ManagementFactory;

/** What 512 calls make stays small: all calls of one run live in one room. */
public final class RoomTest {
    private static final int CALLS = 512;
    private static final ThreadMXBean THREADS = (ThreadMXBean) ManagementFactory.getThreadMXBean();

    public static void main(String[] args) {
        room("a new object", 4_000, new Tutorlight(), x -> new Tutorlight().isSound());
        room("explain", 100, full(), x -> x.explain(3));
        room("isSound", 100, full(), x -> x.isSound());
        room("choose", 100, full(), x -> x.choose(3));
        room("answer", 100, full(), x -> x.answer(3, 9, true));
        room("make", 150, full(), x -> x.make(3, 9, 0));
        room("step", 150, full(), x -> x.step(3, 1, 0, 0, 777));
        room("hint", 150, full(), x -> x.hint(3));
        Check.finish("RoomTest");
    }

    private interface Use {
        void of(Tutorlight x);
    }

    private static Tutorlight full() {
        Tutorlight x = Teachers.with(10, 4);
        x.make(3, 9, 147);
        x.step(3, 3, 0, 0, -10);
        return x;
    }

    private static void room(String call, int mostBytes, Tutorlight x, Use use) {
        long self = Thread.currentThread().getId();
        use.of(x);
        long before = THREADS.getThreadAllocatedBytes(self);
        for (int i = 0; i < CALLS; i++) {
            use.of(x);
        }
        long bytes = (THREADS.getThreadAllocatedBytes(self) - before) / CALLS;
        System.out.println("  " + call + ": " + bytes + " bytes a call");
        Check.same(call + " makes no more than " + mostBytes + " bytes", true, () -> bytes <= mostBytes);
    }
}
