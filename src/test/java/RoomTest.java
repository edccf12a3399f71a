import java.lang.management.ManagementFactory;

/** The room that a run takes: an object is small, and its calls make nothing but their drawers. */
public final class RoomTest {
    private static final Due DUE = new Due("RoomTest");

    private static long allocated() {
        com.sun.management.ThreadMXBean bean = (com.sun.management.ThreadMXBean) ManagementFactory.getThreadMXBean();
        return bean.getThreadAllocatedBytes(Thread.currentThread().getId());
    }

    public static void main(String[] args) {
        // Once beforehand, so that what the machine makes to load the class is not counted.
        dearRun(new DrawStreams());
        long before = allocated();
        DrawStreams x = new DrawStreams();
        long made = allocated() - before;
        DUE.holds("a new object takes " + made + " bytes, 4000 at most", made <= 4000);
        before = allocated();
        dearRun(x);
        long used = allocated() - before;
        DUE.holds("a run of dear calls takes " + used + " bytes, 2000 at most", used <= 2000);
        DUE.end();
    }

    private static void dearRun(DrawStreams x) {
        x.key(1);
        for (int d = 0; d < 12; d++) {
            x.drawer(0, d);
        }
        x.weight(3, 5);
        for (int i = 0; i < 60; i++) {
            int d = i % 12;
            x.hits(d, 1, 3, 1000);
            x.normal(d);
            x.permutation(d, 200);
            x.subset(d, 1000000, 200);
            x.secret(0, 0, 268435457, i);
            x.back(0, 0, 268435457, i);
            x.choose(d);
            x.real(d);
        }
    }
}
