import java.lang.management.ManagementFactory;

/** All calls of a run share one room: no call may make objects, and a new PressedFerns makes few. */
public final class RoomTest {
    private static final Due due = new Due("RoomTest");
    // Of each call, so that the object is used for fewer than 512.
    private static final int CALLS = 16;

    public static void main(String[] args) {
        PressedFerns x = Ferns.with(0, "9m9p9w9b999999");
        for (int a = 0; a < 6; a++) {
            for (int b = 0; b < 6; b++) {
                x.debt(a, b, 10 + a);
            }
        }
        long spare = bytesOf(x, 1);
        due.holds("one call of each made " + spare + " bytes", spare < 20_000);
        long bytes = bytesOf(x, CALLS);
        due.holds(CALLS + " calls of each made " + bytes + " bytes", bytes < 4_000);
        long before = made();
        PressedFerns other = new PressedFerns();
        long one = made() - before;
        due.holds("a new one made " + one + " bytes", one < 8_000 && other.count(0) == 0);
        due.end();
    }

    private static long bytesOf(PressedFerns x, int times) {
        long before = made();
        long sum = 0;
        for (int i = 0; i < times; i++) {
            sum += x.letters('5') + x.fault() + x.book(0) + x.blank() + x.about(0, 3) + x.as(1, 1) + x.snap(2, 1);
            sum += x.image() + x.pay(i % 10, i % 6) + x.debt(1, 2, 3) + x.owes(1, 2) + x.bank(3) + x.fetch(3, 0);
            sum += x.month(true) + x.june() + x.least(0, 40, 1) + x.ring(0) + x.clear() + x.fewest();
            sum += x.held(0, 9, 3, 0) + x.when(0, 9, 3) + x.went(0, 0, 6, 4) + x.months(60, 3, i, 0);
            sum += x.count(1) + x.digest() + x.restore();
        }
        return sum == 0 ? 0 : made() - before;
    }

    private static long made() {
        com.sun.management.ThreadMXBean bean = (com.sun.management.ThreadMXBean) ManagementFactory.getThreadMXBean();
        return bean.getThreadAllocatedBytes(Thread.currentThread().getId());
    }
}
