import com.sun.management.ThreadMXBean;
import java.lang.management.ManagementFactory;

/** All calls of one run live in one room: what the dearest 511 calls make stays small, since rows are used again. */
public final class RoomTest {
    /** Some 600,000 objects and 7.3 million fields and elements are room for far more than this. */
    private static final long MOST_BYTES = 1_000_000;
    private static final ThreadMXBean MEASURE = (ThreadMXBean) ManagementFactory.getThreadMXBean();
    private static final long[] SOME_FEED = Nets.upFrom(1, 100);

    public static void main(String[] args) {
        Due.cases(RoomTest.class);
    }

    static void ofTheWidestBands() {
        long before = made();
        WeaveHall hall = Nets.rings();
        for (int call = 0; call < 400; call++) {
            hall.run(call % 4, 2000, call);
            if (call % 21 == 20) {
                hall.reset();
            }
        }
        fits(before);
    }

    static void ofTheMostWeaversAndBands() {
        long before = made();
        WeaveHall hall = Nets.scripts(60);
        for (int call = 0; call < 411; call++) {
            hall.count(6);
        }
        fits(before);
    }

    static void ofLongHistoriesAndCloths() {
        long before = made();
        WeaveHall hall = Nets.line(2, 20, SOME_FEED);
        for (int call = 0; call < 390; call++) {
            hall.run(2, 2000, 0);
            if (call % 4 == 3) {
                hall.reset();
            }
        }
        fits(before);
    }

    static void ofNetsMadeAgainAndAgain() {
        long before = made();
        WeaveHall hall = new WeaveHall();
        for (int net = 0; net < 50; net++) {
            for (int i = 0; i < 4; i++) {
                hall.weaver(i == 0 ? 3 : 2, 2);
            }
            for (int i = 0; i < 4; i++) {
                hall.band(i, 0, (i + 1) % 4, 0, 1);
            }
            hall.run(net % 4, 2000, net);
            hall.clear();
        }
        fits(before);
    }

    static void ofRates() {
        WeaveHall hall = new WeaveHall();
        Due.source(hall);
        for (int i = 1; i < 39; i++) {
            hall.weaver(2, i < 5 ? 20 : 1);
        }
        Due.collect(hall);
        Nets.inARow(hall, 1);
        Due.due("balance(39)", hall.balance(39), 160000);
        long before = made();
        for (int call = 0; call < 400; call++) {
            hall.balance(call % 40);
        }
        Due.due("bytes made by balance", made() - before < 10_000 ? 1 : 0, 1);
    }

    private static long made() {
        return MEASURE.getThreadAllocatedBytes(Thread.currentThread().getId());
    }

    private static void fits(long before) {
        long bytes = made() - before;
        Due.due("bytes made, if too many", bytes > MOST_BYTES ? bytes : 0, 0);
    }
}
