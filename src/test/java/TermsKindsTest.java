/** Terms 1 and 2: where each KIND ENDS or FAILS, what it reads first, and the edges of what it writes. */
public final class TermsKindsTest {
    public static void main(String[] args) {
        Due.cases(TermsKindsTest.class);
    }

    /** WEAVER 0 of a KIND, a SOURCE at each PORT in, a COLLECT at each PORT out: BANDS in first. */
    private static WeaveHall fed(int kind, int a, long[]... feeds) {
        WeaveHall hall = new WeaveHall();
        hall.weaver(kind, a);
        for (int port = 0; port < Nets.INS[kind]; port++) {
            hall.band(Due.source(hall, feeds[port]), 0, 0, port, 1);
        }
        for (int port = 0; port < Nets.OUTS[kind]; port++) {
            hall.band(0, port, Due.collect(hall), 0, 1);
        }
        return hall;
    }

    private static long[] row(long... v) {
        return v;
    }

    /** Does all, and looks at what it read, and at its first BAND out. */
    private static void ends(WeaveHall hall, int read, long... want) {
        for (int way = 0; way < 4; way++) {
            hall.reset();
            Due.due("FINISHED", hall.run(way, 2000, 3), 0);
            Due.due("ENDED", hall.told(0, 1), 3);
            Due.due("read", hall.told(0, 3), read);
            int band = Nets.INS[hall.told(0, 0)];
            Due.dueAll("written", Due.past(hall, band), want);
        }
    }

    static void sourceEndsBehindItsFeed() {
        ends(fed(0, 0), 0);
        WeaveHall hall = fed(0, 0);
        hall.feed(0, 4);
        ends(hall, 0, 4);
    }

    static void shiftEndsWithItsPort() {
        ends(fed(1, 5, row()), 0);
        ends(fed(1, 5, row(1)), 1, 6);
    }

    static void repeatEndsWithItsPort() {
        ends(fed(2, 2, row()), 0);
        ends(fed(2, 2, row(1)), 1, 1, 1);
        ends(fed(2, 0, row(1, 2)), 2);
    }

    static void delayWritesAAndEndsWithItsPort() {
        ends(fed(3, 5, row()), 0, 5);
        ends(fed(3, 5, row(1)), 1, 5, 1);
    }

    static void mergeEndsWhenBothHaveEnded() {
        ends(fed(4, 0, row(), row()), 0);
        ends(fed(4, 0, row(1), row()), 1, 1);
        ends(fed(4, 0, row(), row(1)), 1, 1);
        ends(fed(4, 0, row(1, 5), row(1, 3)), 4, 1, 1, 3, 5);
    }

    static void mergeTakesOfLikeOnesThatOfPort0() {
        ends(fed(4, 0, row(2, 1), row(2, 9)), 4, 2, 1, 2, 9);
        ends(fed(4, 0, row(2, 9), row(2, 1)), 4, 2, 2, 1, 9);
    }

    static void mergeKnowsTheEndsOfTheLongs() {
        ends(fed(4, 0, row(Long.MAX_VALUE), row(Long.MIN_VALUE)), 2, Long.MIN_VALUE, Long.MAX_VALUE);
        ends(fed(4, 0, row(Long.MIN_VALUE), row(Long.MAX_VALUE)), 2, Long.MIN_VALUE, Long.MAX_VALUE);
    }

    /** PORT 0 WAITS for ever: nothing of PORT 1 is read. */
    static void mergeReadsPort0First() {
        WeaveHall hall = new WeaveHall();
        hall.weaver(4, 0);
        hall.weaver(8, 0);
        Due.collect(hall);
        hall.band(1, 0, 0, 0, 1);
        hall.band(1, 1, 1, 0, 1);
        hall.band(Due.source(hall, 5), 0, 0, 1, 1);
        hall.band(0, 0, 2, 0, 1);
        Due.due("FINISHED", hall.run(0, 2000, 0), 0);
        Due.due("WAITS at PORT 0", hall.told(0, 2), 0);
        Due.due("read", hall.told(0, 3), 0);
    }

    static void splitEndsWithItsPort() {
        ends(fed(5, 2, row()), 0);
        ends(fed(5, 2, row(1, 2, 0, -4, -3)), 5, 2, 0, -4);
    }

    static void sumEndsWithPort0() {
        ends(fed(6, 0, row(), row(1)), 0);
        ends(fed(6, 0, row(1), row(2, 3)), 2, 3);
    }

    static void sumEndsWithPort1() {
        ends(fed(6, 0, row(1), row()), 1);
        ends(fed(6, 0, row(1, 2), row(5)), 3, 6);
    }

    static void selectEndsWithPort0() {
        ends(fed(7, 0, row(), row(1), row(2)), 0);
        ends(fed(7, 0, row(0, 1), row(5, 6), row(7, 8)), 4, 5, 7);
    }

    static void selectEndsWithPort1IfThatWas0() {
        ends(fed(7, 0, row(0, 0), row(5), row(7)), 3, 5);
        ends(fed(7, 0, row(0), row(), row(7)), 1);
    }

    static void selectEndsWithPort2Else() {
        ends(fed(7, 0, row(1, 1), row(5), row(7)), 3, 7);
        ends(fed(7, 0, row(1), row(5), row()), 1);
    }

    static void selectTakesPort1By0Alone() {
        ends(fed(7, 0, row(-1, 0, Long.MIN_VALUE, 1L << 32, 0, 1), row(10, 11), row(20, 21, 22, 23)), 12,
            20, 10, 21, 22, 11, 23);
    }

    static void copyEndsWithItsPort() {
        ends(fed(8, 0, row()), 0);
        WeaveHall hall = fed(8, 0, row(1, 2));
        ends(hall, 2, 1, 2);
        Due.dueAll("PORT 1", Due.past(hall, 2), 1, 2);
    }

    static void collectEndsWithItsPort() {
        WeaveHall hall = fed(9, 0, row(4));
        Due.due("FINISHED", hall.run(0, 2000, 0), 0);
        Due.due("ENDED", hall.told(0, 1), 3);
        Due.due("CLOTH", hall.woven(0, 0), 4);
    }

    static void countBeginsWith1() {
        ends(fed(10, 0, row()), 0);
        ends(fed(10, 7, row(9, 9, 9)), 3, 1, 2, 3);
    }

    static void sortWritesFewerWhenItsPortEnds() {
        ends(fed(11, 3, row()), 0);
        ends(fed(11, 3, row(2)), 1, 2);
        ends(fed(11, 3, row(2, 1)), 2, 1, 2);
        ends(fed(11, 3, row(3, 2, 1)), 3, 1, 2, 3);
        ends(fed(11, 3, row(3, 2, 1, 0)), 4, 1, 2, 3, 0);
        ends(fed(11, 3, row(3, 2, 1, 0, -1)), 5, 1, 2, 3, -1, 0);
    }

    static void sortWritesNothingOfWhatItHasWhenItFails() {
        WeaveHall hall = new WeaveHall();
        Due.source(hall, 3, 2, 1);
        hall.weaver(12, 3);
        hall.weaver(11, 2);
        Due.collect(hall);
        Due.due("FINISHED", Nets.inARow(hall, 1).run(0, 2000, 0), 0);
        Due.dueAll("CLOTH", Due.cloth(hall, 3), 2, 3);
        Due.due("FAILED", hall.told(2, 1), 4);
    }

    static void tearEndsWithItsPort() {
        ends(fed(12, 1, row()), 0);
        ends(fed(12, 3, row(8, 9)), 2, 8, 9);
    }

    /** To read that a BAND ENDED is an ACT, to END the next: a SOURCE's END is one ACT, a COLLECT's are two. */
    static void endIsAnActOfItsOwn() {
        WeaveHall hall = Nets.pair(1);
        hall.run(0, 1, 0);
        Due.due("SOURCE ENDED", hall.told(0, 1), 3);
        Due.due("COLLECT can go on", hall.told(1, 1), 0);
        hall.run(0, 1, 0);
        Due.due("COLLECT has read that", hall.told(1, 1), 0);
        Due.due("run(0, 1, 0)", hall.run(0, 1, 0), 0);
        Due.due("COLLECT ENDED", hall.told(1, 1), 3);
    }

    /** To read that a BAND FAILED and to FAIL is one ACT. */
    static void whoReadsThatABandFailedFailsInThatAct() {
        WeaveHall hall = Nets.line(12, 0);
        hall.run(1, 1, 0);
        Due.due("TEAR FAILED", hall.told(1, 1), 4);
        hall.run(1, 1, 0);
        Due.due("COLLECT FAILED", hall.told(2, 1), 4);
    }

    /** MERGE goes on by it: PORT 0 ENDED, then PORT 1 is read, each an ACT. */
    static void mergeReadsThatAPortEndedOnce() {
        WeaveHall hall = fed(4, 0, row(), row(1, 2, 3));
        Due.due("FINISHED", hall.run(0, 2000, 0), 0);
        // SOURCES 1 and 4, COLLECT 5; MERGE: ENDED, 3 reads, 3 writes, ENDED, END
        Due.due("ACTS", hall.count(2), 1 + 4 + 5 + 9);
    }

    static void sortReadsThatItsPortEndedOnce() {
        WeaveHall hall = fed(11, 9, row(1, 2, 3));
        Due.due("FINISHED", hall.run(0, 2000, 0), 0);
        Due.due("ACTS", hall.count(2), 4 + 5 + 8);
    }

    /** A full BAND and one that is empty: who is to write WAITS, who is to read WAITS. */
    static void waitsFromFullOn() {
        WeaveHall hall = Nets.pair(2, 1, 2, 3);
        hall.run(2, 1, 0);
        Due.due("one of two", hall.told(0, 1), 0);
        hall.run(2, 1, 0);
        Due.due("two of two", hall.told(0, 1), 2);
        Due.due("there is something", hall.told(1, 1), 0);
        hall.run(1, 1, 0);
        Due.due("room again", hall.told(0, 1), 0);
        hall.run(1, 1, 0);
        Due.due("empty", hall.told(1, 1), 1);
    }

    /** The SOURCE WAITS at a full BAND until its reader FAILS: then it goes on. */
    static void nobodyWaitsToWriteToOneWhoIsOver() {
        WeaveHall hall = Nets.line(12, 0, 1, 2, 3);
        hall.width(0, 1);
        hall.run(0, 1, 0);
        Due.due("WAITS to write", hall.told(0, 1), 2);
        hall.run(1, 1, 0);
        Due.due("TEAR FAILED", hall.told(1, 1), 4);
        Due.due("can go on", hall.told(0, 1), 0);
    }

    /** The same with a reader that ENDED: a SCRIPT that reads once, then that its PORT 1 has ENDED. */
    static void nobodyWaitsToWriteToOneWhoEnded() {
        WeaveHall hall = Nets.scripted(new long[] {1, 2, 3, 4}, 0, 0, 0, 0, 1, 0);
        Due.due("FINISHED", hall.run(0, 2000, 0), 0);
        Due.due("SCRIPT ENDED", hall.told(2, 1), 3);
        Due.due("SOURCE ENDED", hall.told(0, 1), 3);
        Due.due("written", hall.bandTold(0, 3), 4);
        Due.due("on it", hall.bandTold(0, 1), 1);
        Due.due("WIDENED", hall.count(3), 0);
    }

    /** A BAND that FAILED is read to its end first. */
    static void aFailureIsBehindAllThatIsOnTheBand() {
        WeaveHall hall = Nets.line(12, 3, 7, 8, 9);
        for (int i = 0; i < 40 && hall.told(1, 1) != 4; i++) {
            hall.run(2, 1, 0);
        }
        Due.due("on it", hall.bandTold(1, 1), 3);
        Due.due("COLLECT has read none", hall.told(2, 3), 0);
        Due.due("FINISHED", hall.run(0, 2000, 0), 0);
        Due.dueAll("CLOTH", Due.cloth(hall, 2), 7, 8, 9);
        Due.due("COLLECT FAILED", hall.told(2, 1), 4);
    }
}
