/** Promise 15, widened: the BANDS in the order in which they were WIDENED, of which the first 100 are kept. */
public final class Promise15WidenedTest {
    public static void main(String[] args) {
        Due.cases(Promise15WidenedTest.class);
    }

    /** SOURCES at PORTS in of SUMS that WAIT for themselves: BAND 2 i of a told WIDTH, as many PATTERNS as told. */
    private static WeaveHall waiting(int width, int fed, int sources) {
        WeaveHall hall = new WeaveHall();
        for (int i = 0; i < sources; i++) {
            int source = Due.source(hall, Nets.upFrom(0, fed));
            int sum = hall.weaver(6, 0);
            hall.band(source, 0, sum, 1, width);
            hall.band(sum, 0, sum, 0, 1);
        }
        return hall;
    }

    static void iBelow0IsBad() {
        WeaveHall hall = waiting(1, 2, 1);
        hall.run(0, 2000, 0);
        Due.due("WIDENED", hall.count(3), 1);
        Due.due("widened(-1)", hall.widened(-1), WeaveHall.BAD);
    }

    static void theFirstIs0AndOneBehindItIsBad() {
        WeaveHall hall = waiting(1, 2, 1);
        hall.run(0, 2000, 0);
        Due.due("widened(0)", hall.widened(0), 0);
        Due.due("widened(1)", hall.widened(1), WeaveHall.BAD);
    }

    static void iFarAwayIsBad() {
        WeaveHall hall = waiting(1, 2, 1);
        hall.run(0, 2000, 0);
        for (int far : Nets.FAR) {
            Due.due("widened(" + far + ")", hall.widened(far), WeaveHall.BAD);
        }
    }

    static void aheadOfARunThereIsNone() {
        Due.due("widened(0)", waiting(1, 2, 1).widened(0), WeaveHall.BAD);
    }

    static void withoutWideningThereIsNone() {
        WeaveHall hall = waiting(2, 2, 1);
        Due.due("FINISHED", hall.run(0, 2000, 0), 0);
        Due.due("WIDENED", hall.count(3), 0);
        Due.due("widened(0)", hall.widened(0), WeaveHall.BAD);
    }

    static void behindResetThereIsNone() {
        WeaveHall hall = waiting(1, 2, 1);
        hall.run(0, 2000, 0);
        hall.reset();
        Due.due("widened(0)", hall.widened(0), WeaveHall.BAD);
        hall.run(0, 1, 0);
        Due.due("in the next RUN, not yet", hall.widened(0), WeaveHall.BAD);
    }

    static void behindClearThereIsNone() {
        WeaveHall hall = waiting(1, 2, 1);
        hall.run(0, 2000, 0);
        hall.clear();
        Due.due("widened(0)", hall.widened(0), WeaveHall.BAD);
    }

    static void ofLikeWidthsTheLeastNumberIsFirst() {
        WeaveHall hall = waiting(1, 3, 3);
        Due.due("FINISHED", hall.run(0, 2000, 0), 0);
        int[] want = {0, 2, 4, 0, 2, 4};
        for (int i = 0; i < want.length; i++) {
            Due.due("widened(" + i + ")", hall.widened(i), want[i]);
        }
        Due.due("WIDENED", hall.count(3), 6);
    }

    static void theLeastWidthIsAheadOfTheLeastNumber() {
        WeaveHall hall = waiting(3, 5, 3);
        hall.width(2, 2);
        hall.width(4, 1);
        Due.due("FINISHED", hall.run(0, 2000, 0), 0);
        // 3, 2, 1: BAND 4 (2), then BAND 2 (4) ahead of BAND 4, BAND 4 (4), BAND 0 (6), and 4 and 4 once more
        int[] want = {4, 2, 4, 0, 2, 4};
        for (int i = 0; i < want.length; i++) {
            Due.due("widened(" + i + ")", hall.widened(i), want[i]);
        }
        Due.due("WIDENED", hall.count(3), 6);
    }

    /** SOURCE 0 writes to the last BAND made, SOURCE 2 to the first one. */
    private static WeaveHall againstTheOrder(int first, int second, int third) {
        WeaveHall hall = new WeaveHall();
        for (int i = 0; i < 3; i++) {
            Due.source(hall, 1, 2, 3, 4, 5, 6, 7);
        }
        int[] widths = {first, second, third};
        for (int i = 0; i < 3; i++) {
            int sum = hall.weaver(6, 0);
            hall.band(2 - i, 0, sum, 1, widths[i]);
            hall.band(sum, 0, sum, 0, 1);
        }
        return hall;
    }

    private static void inOrder(WeaveHall hall, int... want) {
        for (int way = 0; way < 4; way++) {
            hall.reset();
            Due.due("FINISHED", hall.run(way, 2000, way), 0);
            for (int i = 0; i < want.length; i++) {
                Due.due("widened(" + i + ")", hall.widened(i), want[i]);
            }
            Due.due("WIDENED", hall.count(3), want.length);
        }
    }

    static void theNumbersOfBandsTellNotThoseOfWeavers() {
        inOrder(againstTheOrder(4, 4, 4), 0, 2, 4);
        inOrder(againstTheOrder(6, 5, 4), 4, 2, 0);
        inOrder(againstTheOrder(4, 5, 6), 0, 2, 4);
        inOrder(againstTheOrder(5, 4, 6), 2, 0, 4);
        inOrder(againstTheOrder(6, 4, 4), 2, 4, 0);
        inOrder(againstTheOrder(3, 6, 3), 0, 4, 0, 2, 4);
    }

    /** BANDS 1, 3, .. to the SUMS themselves are narrow and empty: nobody WAITS to write to them. */
    static void onlyFullBandsAtWhichOneWaits() {
        WeaveHall hall = waiting(5, 6, 2);
        hall.run(0, 2000, 0);
        Due.due("widened(0)", hall.widened(0), 0);
        Due.due("widened(1)", hall.widened(1), 2);
        Due.due("WIDENED", hall.count(3), 2);
        Due.due("BAND 1", hall.bandTold(1, 0), 1);
    }

    /** SOURCE 0 has written all 2 that BAND 0 (2) can hold: full, but nobody WAITS there; BAND 2 (3) is WIDENED. */
    static void notAFullBandAtWhichNobodyWaits() {
        WeaveHall hall = new WeaveHall();
        Due.source(hall, 1, 2);
        Due.source(hall, 1, 2, 3, 4);
        hall.weaver(6, 0);
        hall.weaver(6, 0);
        hall.band(0, 0, 2, 1, 2);
        hall.band(2, 0, 2, 0, 1);
        hall.band(1, 0, 3, 1, 3);
        hall.band(3, 0, 3, 0, 1);
        Due.due("FINISHED", hall.run(0, 2000, 0), 0);
        Due.due("widened(0)", hall.widened(0), 2);
        Due.due("WIDENED", hall.count(3), 1);
        Due.due("BAND 0", hall.bandTold(0, 0), 2);
    }

    static void notWhileOneCanGoOn() {
        WeaveHall hall = waiting(1, 2, 1);
        int delay = hall.weaver(3, 1);
        hall.band(delay, 0, delay, 0, 1);
        Due.due("run(0, 2000, 0)", hall.run(0, 2000, 0), 1);
        Due.due("WAITS to write", hall.told(0, 1), 2);
        Due.due("WIDENED", hall.count(3), 0);
    }

    static void hundredAreKept() {
        WeaveHall hall = Nets.rings();
        toWidenings(hall, 100);
        Due.due("widened(98)", hall.widened(98) >= 0 ? 1 : 0, 1);
        Due.due("widened(99)", hall.widened(99) >= 0 ? 1 : 0, 1);
        Due.due("widened(100)", hall.widened(100), WeaveHall.BAD);
    }

    static void of99ThereIsNo100th() {
        WeaveHall hall = Nets.rings();
        toWidenings(hall, 99);
        Due.due("widened(98)", hall.widened(98) >= 0 ? 1 : 0, 1);
        Due.due("widened(99)", hall.widened(99), WeaveHall.BAD);
    }

    static void the101stIsCountedNotKept() {
        WeaveHall hall = Nets.rings();
        toWidenings(hall, 100);
        int[] first = new int[100];
        for (int i = 0; i < 100; i++) {
            first[i] = hall.widened(i);
        }
        toWidenings(hall, 101);
        Due.due("widened(100)", hall.widened(100), WeaveHall.BAD);
        for (int i = 0; i < 100; i++) {
            Due.due("widened(" + i + ")", hall.widened(i), first[i]);
        }
    }

    /** Goes on, by ever fewer ACTS a call, until just so many were WIDENED. */
    private static void toWidenings(WeaveHall hall, int want) {
        for (int calls = 0; calls < 200 && hall.count(3) < want; calls++) {
            int missing = want - hall.count(3);
            hall.run(2, Math.max(1, missing - 1), 0);
        }
        Due.due("WIDENED", hall.count(3), want);
    }

    static void toTellChangesNothing() {
        Twins.changesNothing("widened(0)", Nets::begun, hall -> hall.widened(0));
        Twins.changesNothing("widened(100)", Nets::begun, hall -> hall.widened(100));
        Twins.changesNothing("widened(-1)", Nets::begun, hall -> hall.widened(-1));
    }
}
