import java.lang.management.ManagementFactory;

/** Calls make nothing: all rows are made by the constructor and used again. */
public final class RoomTest {
    private static final int CALLS = 512;
    private static final long BYTES_OF_AN_OBJECT = 16_384;
    private static final Check C = new Check("RoomTest");
    private static long sink;

    public static void main(String[] args) {
        com.sun.management.ThreadMXBean threads =
            (com.sun.management.ThreadMXBean) ManagementFactory.getThreadMXBean();
        long thread = Thread.currentThread().getId();
        threads.getThreadAllocatedBytes(thread);
        GloveAbout x = new GloveAbout();
        allCalls(x);
        long before = threads.getThreadAllocatedBytes(thread);
        GloveAbout y = new GloveAbout();
        long made = threads.getThreadAllocatedBytes(thread) - before;
        C.holds("a new object takes " + made + " bytes", made < BYTES_OF_AN_OBJECT);
        before = threads.getThreadAllocatedBytes(thread);
        for (int i = 0; i < CALLS; i++) {
            allCalls(y);
        }
        made = threads.getThreadAllocatedBytes(thread) - before;
        C.holds("all calls, " + CALLS + " times each, take " + made + " bytes", made < BYTES_OF_AN_OBJECT);
        C.holds("something was answered", sink != 0);
        C.finish();
    }

    private static final String TEXT = "signer 2 20;bold 9 20;shy 4 20;dancer 0 20;fame 1 2 3 4 5 6;route 5 11 3 2 8;";

    private static void allCalls(GloveAbout x) {
        Check.tell(x, TEXT);
        sink += x.fault() + x.rule(5) + x.glove(1, 5) + x.door(3, 1) + x.stop(0);
        sink += x.alter(0, 2, 19) + x.fame(3, 3) + x.leave(0) + x.go(4) + x.cut(4) + x.call(7);
        sink += x.days(1) + x.runs(60, 0) + x.runs(60, 4) + x.ahead(1, 60, 0) + x.meets(2);
        sink += x.place(0, 60, 0) + x.extra(60, 0) + x.swap(60, 0) + x.shun(60, 0) + x.need(1, 60);
        sink += x.kind(0, 60, 0) + x.drop(2, 60, 0) + x.luck(5, 0, 8, 0) + x.mean(5, 8, 0);
        sink += x.see(20, 1, 3) + x.kinds(0) + x.doors(0) + x.forget(1) + x.ask(0, 0) + x.drift(7, 60, 0);
        sink += x.keep(0) + x.back(0) + x.sheet(0, 2, 40) + x.lay(0, 3, 9) + x.read(0, 2, 0, 20) + x.torn();
        sink += x.count(3);
    }
}
