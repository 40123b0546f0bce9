import java.lang.management.ManagementFactory;

/** All calls of a run live in one room, so dear calls must make little that is new. */
public final class RoomTest {
    private static final long MOST_BYTES = 2000000;

    private RoomTest() {
    }

    public static void main(String[] args) {
        Due due = new Due("RoomTest");
        // Once without counting, so that what Java itself makes at first is not counted.
        rowMakers(due);
        manyReads(due);
        long before = allocated();
        rowMakers(due);
        long between = allocated();
        manyReads(due);
        long behind = allocated();
        due.is("bytes of runs that make rows: " + (between - before), between - before < MOST_BYTES ? 1 : 0, 1);
        due.is("bytes of reads: " + (behind - between), behind - between < MOST_BYTES ? 1 : 0, 1);
        due.close();
    }

    private static long allocated() {
        com.sun.management.ThreadMXBean threads = (com.sun.management.ThreadMXBean) ManagementFactory.getThreadMXBean();
        return threads.getThreadAllocatedBytes(Thread.currentThread().getId());
    }

    private static void rowMakers(Due due) {
        ScriptLanguage x = new ScriptLanguage();
        for (int i = 0; i < 8; i++) {
            x.column('A' + i, 2, true);
        }
        String eight = "A=row(20);B=row(20);C=row(20);D=row(20);E=row(20);F=row(20);G=row(20);H=row(20);";
        Texts.read(x, "repeat 23{" + eight + "}");
        for (int n = 0; n < 480; n++) {
            int outcome = x.run(n % 20, 400);
            if (outcome != 0 || x.taken() != 392) {
                due.is("run " + n, outcome, 0);
            }
        }
        due.is("the last row", x.whole(19, 7), 20);
    }

    private static void manyReads(Due due) {
        ScriptLanguage x = new ScriptLanguage();
        for (int n = 0; n < 170; n++) {
            x.feed(0x73746f70, 0x3b73746f, 0x703b3f3f, 0x20202020, 0x20202020);
            x.end(10);
            x.read();
        }
        due.is("count(4)", x.count(4), 1);
    }
}
