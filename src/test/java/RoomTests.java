import com.sun.management.ThreadMXBean;
import java.lang.management.ManagementFactory;

/** All calls of a run share one room: what is made is made with the object and with its zones. */
public final class RoomTests {
    private static final ThreadMXBean BEAN = (ThreadMXBean) ManagementFactory.getThreadMXBean();
    private static int wrong = 0;

    private static long made() {
        return BEAN.getThreadAllocatedBytes(Thread.currentThread().getId());
    }

    private static void want(boolean holds, String what) {
        if (!holds) {
            wrong++;
            System.out.println("room: " + what);
        }
    }

    public static void main(String[] args) {
        dearestRun(new OddHours(), 1);
        long before = made();
        OddHours x = new OddHours();
        long object = made() - before;
        want(object < 600000, "an object takes " + object + " bytes");
        long start = System.nanoTime();
        before = made();
        int calls = dearestRun(x, 1);
        long zones = made() - before;
        want(zones < 150000, "zones take " + zones + " bytes");
        before = made();
        calls += dearestRun(x, (512 - calls) / 5);
        long rest = made() - before;
        want(rest < 4096, "other calls take " + rest + " bytes");
        long seconds = (System.nanoTime() - start) / 1000000000L;
        want(seconds < 60, "the dearest calls take " + seconds + " seconds");
        System.out.println("room: " + calls + " calls, object " + object + ", zones " + zones + ", others " + rest);
        if (wrong != 0) {
            System.exit(1);
        }
    }

    /** Years of 12 days, five zones with eight rules each, and the widest ranges. */
    private static int dearestRun(OddHours x, int rounds) {
        int calls = 0;
        if (x.count(0) == 0) {
            calls = 12 + 1 + 5 + 40 + 10;
            for (int m = 0; m < 12; m++) {
                x.month(m, 1);
            }
            x.week(2, 0);
            for (int z = 0; z < 5; z++) {
                x.zone(100 * z - 200);
                for (int r = 0; r < 8; r++) {
                    x.rule(z, 99, 1000 * (r + 2) + r % 2 * 10, 100 * r, r % 2 * 60 + z * 50 - 100);
                }
            }
            x.line(0, 0, 0, 0);
            for (int i = 0; i < 3; i++) {
                x.line(0, 1, i, 0);
                x.line(0, 6, 1, 0);
                x.line(0, 4, i, 0);
            }
        }
        for (int i = 0; i < rounds; i++) {
            x.known(i % 2 == 0 ? 99999 : 0);
            x.odds(i, 1700000 + i);
            x.least(0, 0, 100, 2000 + i, 1600000);
            x.mend(0, 0, 9000, 20000 + i, 100000);
            x.meetings(i % 5, 1000, 0, 1199, 0);
            calls += 5;
        }
        return calls;
    }
}
