/** Promise 12, bandTold: what there is of a BAND, ahead of a RUN, in one and behind it; the bounds of both numbers. */
public final class Promise12BandToldTest {
    public static void main(String[] args) {
        Due.cases(Promise12BandToldTest.class);
    }

    private static void bad(int band, int what) {
        Twins.refused("bandTold(" + band + ", " + what + ")", WeaveHall.BAD, Nets::begun,
            hall -> hall.bandTold(band, what));
    }

    private static void told(WeaveHall hall, int band, int... want) {
        for (int what = 0; what < want.length; what++) {
            Due.due("bandTold(" + band + ", " + what + ")", hall.bandTold(band, what), want[what]);
        }
    }

    static void bandBelow0IsBad() {
        bad(-1, 0);
    }

    static void bandBehindTheLastIsBad() {
        bad(4, 0);
        bad(4, 7);
    }

    static void whatBelow0IsBad() {
        bad(0, -1);
    }

    static void whatAbove7IsBad() {
        bad(0, 8);
        bad(3, 8);
    }

    static void numbersFarAwayAreBad() {
        for (int far : Nets.FAR) {
            bad(far, 0);
            bad(0, far);
        }
    }

    static void toTellChangesNothing() {
        for (int what = 0; what < 8; what++) {
            int one = what;
            Twins.changesNothing("bandTold(1, " + what + ")", Nets::begun, hall -> hall.bandTold(1, one));
        }
    }

    static void band59IsTold() {
        told(Nets.scripts(60), 59, 10, 0, 0, 0, 0, 0, 29, 30);
        Due.due("no BAND 60", Nets.scripts(60).bandTold(60, 0), WeaveHall.BAD);
    }

    static void aheadOfARun() {
        told(Nets.small(), 0, 1, 0, 0, 0, 0, 0, 0, 2);
        told(Nets.small(), 3, 4, 0, 0, 0, 0, 0, 2, 4);
        told(Nets.open(), 2, 3, 0, 0, 0, 0, 0, 2, 3);
    }

    static void behindReset() {
        WeaveHall hall = Nets.small();
        hall.run(0, 2000, 0);
        hall.reset();
        told(hall, 0, 1, 0, 0, 0, 0, 0, 0, 2);
        told(hall, 3, 4, 0, 0, 0, 0, 0, 2, 4);
    }

    /** WAY 2: the SOURCE fills it, then the COLLECT empties it. */
    static void fromEmptyToFullAndBack() {
        WeaveHall hall = Nets.pair(3, 7, 8, 9, 10);
        for (int i = 1; i <= 3; i++) {
            hall.run(2, 1, 0);
            told(hall, 0, 3, i, i, i, 0, 0, 0, 1);
        }
        Due.due("WAITS to write", hall.told(0, 1), 2);
        for (int i = 2; i >= 0; i--) {
            hall.run(1, 1, 0);
            told(hall, 0, 3, i, 3, 3, 0, 0, 0, 1);
        }
        hall.run(2, 1, 0);
        told(hall, 0, 3, 1, 3, 4, 0, 0, 0, 1);
    }

    static void itHasEndedWithPatternsOnIt() {
        WeaveHall hall = Nets.pair(3, 7, 8);
        hall.run(2, 2, 0);
        Due.due("not yet", hall.bandTold(0, 4), 0);
        hall.run(2, 1, 0);
        told(hall, 0, 3, 2, 2, 2, 1, 0, 0, 1);
        hall.run(2, 2000, 0);
        told(hall, 0, 3, 0, 2, 2, 1, 0, 0, 1);
    }

    static void itHasFailedWithPatternsOnIt() {
        WeaveHall hall = Nets.line(12, 2, 7, 8, 9);
        for (int i = 0; i < 40 && hall.told(1, 1) != 4; i++) {
            hall.run(2, 1, 0);
        }
        told(hall, 1, 50, 2, 2, 2, 2, 0, 1, 2);
        told(hall, 0, 50, 1, 3, 3, 1, 0, 0, 1);
    }

    static void itHasNotEndedForItsReader() {
        WeaveHall hall = Nets.line(12, 0, 7, 8, 9);
        hall.run(1, 1, 0);
        Due.due("TEAR FAILED", hall.told(1, 1), 4);
        Due.due("its BAND out", hall.bandTold(1, 4), 2);
        Due.due("its BAND in", hall.bandTold(0, 4), 0);
    }

    static void bothBandsOfOneEnd() {
        WeaveHall hall = Nets.around(8);
        hall.run(0, 2000, 0);
        Due.due("PORT 0", hall.bandTold(1, 4), 1);
        Due.due("PORT 1", hall.bandTold(2, 4), 1);
    }

    /** TEAR 1 has FAILED: on it is what was on it, the HISTORY goes on, nobody WAITS. */
    static void writtenToOneWhoIsOver() {
        WeaveHall hall = Nets.line(12, 0, 7, 8, 9, 10);
        hall.width(0, 1);
        hall.run(0, 2, 0);
        told(hall, 0, 1, 1, 1, 1, 0, 0, 0, 1);
        Due.due("can go on", hall.told(0, 1), 0);
        hall.run(0, 1, 0);
        told(hall, 0, 1, 1, 1, 2, 0, 0, 0, 1);
        Due.due("FINISHED", hall.run(0, 2000, 0), 0);
        told(hall, 0, 1, 1, 1, 4, 1, 0, 0, 1);
        Due.due("WIDENED", hall.count(3), 0);
    }

    /** SUM 2 ENDS by its PORT 0; of the three for its PORT 1 the third is written behind that. */
    static void whatIsOnItStaysWhenItsReaderEnds() {
        WeaveHall hall = new WeaveHall();
        Due.source(hall);
        Due.source(hall, 5, 6, 7);
        hall.weaver(6, 0);
        hall.band(0, 0, 2, 0, 1);
        hall.band(1, 0, 2, 1, 2);
        hall.band(2, 0, Due.collect(hall), 0, 1);
        Due.due("FINISHED", hall.run(2, 2000, 0), 0);
        Due.due("SUM ENDED", hall.told(2, 1), 3);
        told(hall, 1, 2, 2, 2, 3, 1, 0, 1, 2);
    }

    /** SUM 3 reads at its PORT 0 that TEAR 1 FAILED; of the three for its PORT 1 the third is written behind that. */
    static void whatIsOnItStaysWhenItsReaderFailsByAnotherBand() {
        WeaveHall hall = new WeaveHall();
        Due.source(hall);
        hall.weaver(12, 0);
        Due.source(hall, 5, 6, 7);
        hall.weaver(6, 0);
        hall.band(0, 0, 1, 0, 1);
        hall.band(1, 0, 3, 0, 1);
        hall.band(2, 0, 3, 1, 2);
        hall.band(3, 0, Due.collect(hall), 0, 1);
        Due.due("FINISHED", hall.run(2, 2000, 0), 0);
        Due.due("SUM FAILED", hall.told(3, 1), 4);
        told(hall, 2, 2, 2, 2, 3, 1, 0, 2, 3);
    }

    /** SCRIPT 1 writes one to itself; then it reads that its PORT 0 has ENDED, or FAILS. */
    static void aBandToItsOwnWeaverEndsAndFailsWithIt() {
        for (int last : new int[] {0, 7}) {
            WeaveHall hall = new WeaveHall();
            Due.source(hall);
            Due.script(hall, 1, 1, 0, last, 0, 0);
            hall.band(0, 0, 1, 0, 1);
            hall.band(1, 0, Due.collect(hall), 0, 1);
            hall.band(1, 1, 1, 1, 2);
            Due.due("FINISHED", hall.run(0, 2000, 0), 0);
            told(hall, 2, 2, 1, 1, 1, last == 0 ? 1 : 2, 0, 1, 1);
        }
    }

    static void writtenToOneWhoIsOverFromTheStart() {
        WeaveHall hall = Nets.line(12, 0, 7, 8);
        hall.width(0, 1);
        Due.due("FINISHED", hall.run(1, 2000, 0), 0);
        told(hall, 0, 1, 0, 0, 2, 1, 0, 0, 1);
    }

    static void historyBeyond300IsCounted() {
        WeaveHall hall = Nets.line(2, 20, Nets.upFrom(0, 20));
        Due.due("FINISHED", Nets.toTheEnd(hall, 0), 0);
        Due.due("written", hall.bandTold(1, 3), 400);
        Due.due("written", hall.bandTold(0, 3), 20);
    }

    /** From 7 on: 14, 28, .. 896, 1000; each BAND in the ring is WIDENED 8 times, and all of it is used. */
    static void widenedFrom7To1000() {
        WeaveHall hall = Nets.doubling(7);
        Due.due("STICKS", Nets.toTheEnd(hall, 0), 2);
        for (int i = 0; i < 2; i++) {
            Due.due("WIDTH", hall.bandTold(i, 0), 1000);
            Due.due("on it", hall.bandTold(i, 1), 1000);
            Due.due("the most", hall.bandTold(i, 2), 1000);
            Due.due("WIDENED", hall.bandTold(i, 5), 8);
        }
    }

    /** 1, 2, 4, .. 512, 1000; and 50, 100, .. 800, 1000. */
    static void widenedFrom1AndFrom50() {
        WeaveHall from1 = Nets.doubling(1);
        Due.due("STICKS", Nets.toTheEnd(from1, 0), 2);
        Due.due("WIDTH", from1.bandTold(1, 0), 1000);
        Due.due("WIDENED", from1.bandTold(1, 5), 10);
        WeaveHall from50 = Nets.doubling(50);
        Due.due("STICKS", Nets.toTheEnd(from50, 0), 2);
        Due.due("WIDTH", from50.bandTold(1, 0), 1000);
        Due.due("WIDENED", from50.bandTold(1, 5), 5);
    }

    /** SOURCE 0 (so many) at a SUM that WAITS for itself: WIDTHS on the way. */
    static void eachWideningDoublesIt() {
        int[][] steps = {{2, 2}, {3, 4}, {4, 4}, {5, 8}, {9, 16}, {17, 32}, {33, 64}, {65, 128}, {129, 200}};
        for (int[] step : steps) {
            WeaveHall hall = new WeaveHall();
            Due.source(hall, Nets.upFrom(0, step[0]));
            hall.weaver(6, 0);
            hall.band(0, 0, 1, 1, step[1] == 200 ? 50 : 1);
            hall.band(1, 0, 1, 0, 1);
            Due.due("FINISHED", hall.run(0, 2000, 0), 0);
            Due.due("WIDTH for " + step[0], hall.bandTold(0, 0), step[1]);
            Due.due("on it", hall.bandTold(0, 1), step[0]);
        }
    }

    static void aBandToItsOwnWeaver() {
        WeaveHall hall = Nets.endless();
        hall.run(0, 1, 0);
        told(hall, 0, 1, 1, 1, 1, 0, 0, 0, 0);
        hall.run(0, 1, 0);
        told(hall, 0, 1, 0, 1, 1, 0, 0, 0, 0);
    }
}
