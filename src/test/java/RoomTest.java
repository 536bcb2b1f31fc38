import java.lang.management.ManagementFactory;

/** All calls of a run live in one room: what an object takes at first, and that no call takes more. */
public final class RoomTest {
    private static final com.sun.management.ThreadMXBean THREADS =
        (com.sun.management.ThreadMXBean) ManagementFactory.getThreadMXBean();
    private static final int MOST_OF_OBJECT = 20000;
    private static final int MOST_OF_CALLS = 2000;

    private static int used;

    public static void main(String[] args) {
        for (int i = 0; i < 20; i++) {
            calls(new MountainsInMourning());
        }
        long before = THREADS.getThreadAllocatedBytes(Thread.currentThread().getId());
        MountainsInMourning x = new MountainsInMourning();
        long made = THREADS.getThreadAllocatedBytes(Thread.currentThread().getId());
        calls(x);
        long behind = THREADS.getThreadAllocatedBytes(Thread.currentThread().getId());
        Due.that("an object takes " + (made - before) + " bytes", made - before <= MOST_OF_OBJECT);
        Due.that("the calls take " + (behind - made) + " bytes", behind - made <= MOST_OF_CALLS);
        Due.that("the calls are used", used != 42);
        Due.end();
    }

    private static void calls(MountainsInMourning x) {
        for (int p = 0; p < 10; p++) {
            used += x.peak(p % 7, p, 10 * p, 10 + p * p % 17);
        }
        for (int v = 0; v < 8; v++) {
            used += x.valley(v) + x.under(v, v, true);
        }
        used += x.screen(55, 3) + x.years(50) + x.image();
        String text = "years 20;take 3;under 0 7";
        used += x.row(0, 0, text.length()) + x.row(1, 2, 3) + x.row(2, 2, 160) + x.show(3, 4);
        for (int i = 0; i < text.length(); i++) {
            used += x.set(0, i, text.charAt(i));
        }
        used += x.set(1, 0, 5) + x.set(1, 1, 120) + x.set(1, 2, 6);
        used += x.range(0) + x.fault() + x.copy(1, 2, 0, 5, 3) + (int) x.element(2, 6) + x.holds(3) + x.says(3, 4);
        used += x.peakOf(1, 6) + x.valleyOf(0, 2) + x.since(0, 1) + x.black(2, 9) + x.behind(4, 0) + x.behind(9, 1);
        used += x.white() + x.yields(200) + x.grief(4) + x.least() + x.order(3, 2) + x.cost(5) + x.screened(0, 1, 5);
        used += x.hide(0, 1) + x.fits(2) + x.fires(1023) + x.send() + x.chain(0, 9) + x.lacks(0) + x.lacks(1);
        used += x.spared(2, 0) + x.judge(1, 3) + x.told(1, 3, 0) + x.told(1, 3, 1) + x.done(1, 3) + x.take(0);
        used += x.seed(3) + x.ages(200) + x.act(6, 2, 9) + x.trace(3) + x.restore() + x.status(5) + x.row(9, 0, 0);
    }
}
