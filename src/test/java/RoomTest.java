import java.lang.management.ManagementFactory;

/** All calls of one run live in one room: the dearest runs must stay far below it. */
public final class RoomTest {
    private static final long MOST_BYTES = 400_000;

    public static void main(String[] args) {
        run("picks", 0);
        run("picks", 0);
        run("toggles", 1);
        run("questions", 2);
        Check.close();
    }

    private static long allocated() {
        com.sun.management.ThreadMXBean bean =
                (com.sun.management.ThreadMXBean) ManagementFactory.getThreadMXBean();
        return bean.getThreadAllocatedBytes(Thread.currentThread().getId());
    }

    private static void run(String name, int kind) {
        long before = allocated();
        AreaPicker p = new AreaPicker();
        p.pick(0, 0, 99, 1, 5, 40);
        for (int call = 1; call < 512; call++) {
            one(p, kind, call);
        }
        long bytes = allocated() - before;
        Check.same(name + " took too much room: " + bytes, bytes > MOST_BYTES ? 1 : 0, 0);
    }

    private static void one(AreaPicker p, int kind, int call) {
        if (kind == 0 && call % 2 == 0) {
            p.undo();
        } else if (kind == 0) {
            p.pick(call % 16, call % 10, call % 100, call % 2, call % 6, 40 + call % 4);
        } else if (kind == 1) {
            p.toggle(0);
        } else {
            p.digest();
        }
    }
}
