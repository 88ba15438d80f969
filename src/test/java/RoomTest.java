import java.lang.management.ManagementFactory;

/** However an object is used for 512 calls, it makes its nine tables at most, and uses them again. */
public final class RoomTest {
    private static final Trial T = new Trial();
    private static final int MOST_CALLS = 512;
    /** Nine tables of some 16,500 numbers and bytes, and what goes with them. */
    private static final long MOST_BYTES = 700000;

    interface Call {
        int ask(SpineTables x, int n);
    }

    private static long allocated() {
        com.sun.management.ThreadMXBean threads = (com.sun.management.ThreadMXBean) ManagementFactory.getThreadMXBean();
        return threads.getCurrentThreadAllocatedBytes();
    }

    private static void run(String what, Call call) {
        long before = allocated();
        SpineTables x = new SpineTables();
        // "**kern\n4c\n*-\n", twice, and "kern".
        feed(x, 0x2a2a6b65, 0x726e0a34, 0x630a2a2d, 0x0a000000, 13);
        x.read();
        feed(x, 0x2a2a6b65, 0x726e0a34, 0x630a2a2d, 0x0a000000, 13);
        x.read();
        for (int n = 8; n < MOST_CALLS; n++) {
            call.ask(x, n);
        }
        long bytes = allocated() - before;
        T.due(what + " took " + bytes + " bytes, which is little enough", bytes < MOST_BYTES, true);
    }

    private static void feed(SpineTables x, int a, int b, int c, int d, int size) {
        x.feed(a, b, c, d, 0);
        x.cut(size);
    }

    private static int extract(SpineTables x, int n) {
        switch (n % 4) {
            case 0:
                return x.feed(0x6b65726e, 0, 0, 0, 0);
            case 1:
                return x.cut(4);
            case 2:
                return x.extract(0);
            default:
                return x.drop(2);
        }
    }

    public static void main(String[] args) {
        run("a first look", (x, n) -> x.walk(0));
        run("feed", (x, n) -> x.feed(n, n, n, n, n));
        run("read", (x, n) -> x.read());
        run("read and drop", (x, n) -> n % 2 == 0 ? x.read() : x.drop(2));
        run("reads with a fault", (x, n) -> n % 2 == 0 ? x.feed(n, n, n, n, n) : x.read());
        run("extract", RoomTest::extract);
        run("assemble", (x, n) -> x.assemble(0, 1));
        run("assemble and drop", (x, n) -> n % 2 == 0 ? x.assemble(0, 1) : x.drop(2));
        run("write", (x, n) -> x.write(n % 2));
        run("same", (x, n) -> x.same(0, n % 2) ? 1 : 0);
        run("bars", (x, n) -> x.bars(0));
        run("time", (x, n) -> x.time(0, n % 4, n % 2));
        run("length", (x, n) -> x.length(0, 1, 0, n % 2));
        run("strand", (x, n) -> x.strand(0, n % 3, 0, n % 4));
        run("token", (x, n) -> x.token(0, n % 3, 0, n % 5));
        T.end("RoomTest");
    }
}
