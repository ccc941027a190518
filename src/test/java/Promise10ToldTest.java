/** Promise 10, told: what there is of a WEAVER, ahead of a RUN, in one and behind it; the bounds of both numbers. */
public final class Promise10ToldTest {
    public static void main(String[] args) {
        Due.cases(Promise10ToldTest.class);
    }

    private static void bad(int weaver, int what) {
        Twins.refused("told(" + weaver + ", " + what + ")", WeaveHall.BAD, Nets::begun,
            hall -> hall.told(weaver, what));
    }

    static void weaverBelow0IsBad() {
        bad(-1, 0);
    }

    static void weaverBehindTheLastIsBad() {
        bad(5, 0);
        bad(5, 5);
    }

    static void whatBelow0IsBad() {
        bad(0, -1);
    }

    static void whatAbove5IsBad() {
        bad(0, 6);
        bad(4, 6);
    }

    static void numbersFarAwayAreBad() {
        for (int far : Nets.FAR) {
            bad(far, 0);
            bad(0, far);
        }
    }

    static void toTellChangesNothing() {
        for (int what = 0; what < 6; what++) {
            int one = what;
            Twins.changesNothing("told(2, " + what + ")", Nets::begun, hall -> hall.told(2, one));
        }
    }

    static void weaver39IsTold() {
        WeaveHall hall = Nets.fullOfWeavers();
        Due.due("KIND", hall.told(39, 0), 9);
        Due.due("no WEAVER 40", hall.told(40, 0), WeaveHall.BAD);
    }

    static void kindsAreTold() {
        for (int kind = 0; kind < 14; kind++) {
            WeaveHall hall = Nets.around(kind);
            Due.due("ahead of a RUN", hall.told(0, 0), kind);
            hall.run(0, 2000, 0);
            Due.due("in a RUN", hall.told(0, 0), kind);
        }
    }

    private static void isQuiet(WeaveHall hall) {
        for (int i = 0; i < hall.count(0); i++) {
            Due.due("can go on: " + i, hall.told(i, 1), 0);
            Due.due("no PORT: " + i, hall.told(i, 2), WeaveHall.NONE);
            Due.due("read: " + i, hall.told(i, 3), 0);
            Due.due("written: " + i, hall.told(i, 4), 0);
        }
    }

    /** Ahead of a RUN all can go on, even those that will WAIT at once, or whose PORTS are open. */
    static void aheadOfARunAllCanGoOn() {
        for (int kind = 0; kind < 14; kind++) {
            isQuiet(Nets.alone(kind));
            isQuiet(Nets.around(kind));
        }
    }

    static void behindResetAllCanGoOn() {
        for (int kind = 0; kind < 14; kind++) {
            WeaveHall hall = Nets.around(kind);
            hall.run(0, 2000, 0);
            hall.reset();
            isQuiet(hall);
        }
    }

    static void inARunWhoCanGoOnIs0() {
        WeaveHall hall = Nets.pair(2, 1, 2, 3);
        hall.run(0, 1, 0);
        for (int i = 0; i < 2; i++) {
            Due.due("can go on", hall.told(i, 1), 0);
            Due.due("no PORT", hall.told(i, 2), WeaveHall.NONE);
        }
    }

    static void whoIsToEndOrToFailCanGoOn() {
        WeaveHall hall = Nets.pair(2);
        hall.run(0, 2, 0);
        Due.due("COLLECT is to END", hall.told(1, 1), 0);
        WeaveHall tear = Nets.line(12, 0, 1);
        tear.run(0, 1, 0);
        Due.due("TEAR is to FAIL", tear.told(1, 1), 0);
        Due.due("no PORT", tear.told(1, 2), WeaveHall.NONE);
    }

    static void waitsToReadAtEachPort() {
        // COLLECT at 0; SUM at 1, having read 0; SELECT at 1, at 2, having read 0
        waitsAt(9, 1, 0);
        waitsAt(6, 1, 0);
        waitsAt(6, 2, 1, 5);
        waitsAt(7, 1, 0);
        waitsAt(7, 2, 1, 0);
        waitsAt(7, 2, 2, 5);
        waitsAt(4, 1, 0);
        waitsAt(4, 2, 1, 5);
    }

    /** WEAVER 0 of a KIND: PORT 0 is fed by a SOURCE (then END), the others by SHIFTS that WAIT for themselves. */
    private static void waitsAt(int kind, int fromDead, int port, long... feed) {
        WeaveHall hall = Nets.alone(kind);
        for (int i = 0; i < Nets.INS[kind]; i++) {
            boolean dead = i >= fromDead - 1;
            int writer = dead ? hall.weaver(8, 0) : Due.source(hall, feed);
            hall.band(writer, 0, 0, i, 1);
            if (dead) {
                hall.band(writer, 1, writer, 0, 1);
            }
        }
        for (int i = 0; i < Nets.OUTS[kind]; i++) {
            hall.band(0, i, Due.collect(hall), 0, 1);
        }
        Due.due("FINISHED", hall.run(0, 2000, 0), 0);
        Due.due("KIND " + kind + " WAITS to read", hall.told(0, 1), 1);
        Due.due("KIND " + kind + " at PORT", hall.told(0, 2), port);
    }

    static void waitsToWriteAtPort0() {
        WeaveHall hall = Nets.pair(1, 1, 2);
        hall.run(0, 1, 0);
        Due.due("WAITS to write", hall.told(0, 1), 2);
        Due.due("at PORT 0", hall.told(0, 2), 0);
    }

    /** COPY 1 writes to SUM 2 at both PORTS in, PORT 1 out to PORT 1 in, which is full while PORT 0 WAITS. */
    static void waitsToWriteAtPort1() {
        WeaveHall hall = new WeaveHall();
        Due.source(hall, 1, 2, 3);
        hall.weaver(8, 0);
        hall.weaver(6, 0);
        hall.weaver(11, 9);
        Due.collect(hall);
        hall.band(0, 0, 1, 0, 1);
        hall.band(1, 0, 3, 0, 1);
        hall.band(3, 0, 2, 0, 1);
        hall.band(1, 1, 2, 1, 1);
        hall.band(2, 0, 4, 0, 1);
        Due.untilStill(hall, 0);
        Due.due("WAITS to write", hall.told(1, 1), 2);
        Due.due("at PORT 1", hall.told(1, 2), 1);
    }

    static void whoEndedIs3() {
        WeaveHall hall = Nets.pair(1, 1);
        hall.run(0, 2000, 0);
        for (int i = 0; i < 2; i++) {
            Due.due("ENDED", hall.told(i, 1), 3);
            Due.due("no PORT", hall.told(i, 2), WeaveHall.NONE);
        }
    }

    static void whoFailedIs4() {
        WeaveHall hall = Nets.line(12, 0, 1);
        hall.run(0, 2000, 0);
        for (int i = 1; i < 3; i++) {
            Due.due("FAILED", hall.told(i, 1), 4);
            Due.due("no PORT", hall.told(i, 2), WeaveHall.NONE);
        }
    }

    static void thatABandEndedIsNoPatternRead() {
        WeaveHall hall = Nets.line(1, 0, 7, 8);
        hall.run(0, 2000, 0);
        Due.due("read", hall.told(1, 3), 2);
        Due.due("written", hall.told(1, 4), 2);
        Due.due("read", hall.told(2, 3), 2);
        Due.due("written", hall.told(2, 4), 0);
        Due.due("read", hall.told(0, 3), 0);
        Due.due("written", hall.told(0, 4), 2);
    }

    static void thatABandFailedIsNoPatternRead() {
        WeaveHall hall = Nets.line(12, 1, 7, 8);
        hall.run(0, 2000, 0);
        Due.due("read", hall.told(1, 3), 1);
        Due.due("read", hall.told(2, 3), 1);
    }

    static void whatATryFindsEndedIsNoPatternRead() {
        WeaveHall hall = Nets.scripted(new long[] {7}, 6, 0, 0, 2, 0, 0, 6, 1, 0, 2, 0, 0);
        hall.run(0, 2000, 0);
        Due.due("read", hall.told(2, 3), 1);
    }

    static void whatIsWrittenToOneWhoIsOverCounts() {
        WeaveHall hall = Nets.line(12, 0, 7, 8, 9);
        hall.width(0, 1);
        Due.due("FINISHED", hall.run(1, 2000, 0), 0);
        Due.due("written", hall.told(0, 4), 3);
    }

    static void patternsOfBothPortsAreWritten() {
        WeaveHall hall = new WeaveHall();
        Due.source(hall, 7, 8, 9);
        hall.weaver(8, 0);
        hall.band(0, 0, 1, 0, 1);
        hall.band(1, 0, Due.collect(hall), 0, 1);
        hall.band(1, 1, Due.collect(hall), 0, 1);
        hall.run(0, 2000, 0);
        Due.due("read", hall.told(1, 3), 3);
        Due.due("written", hall.told(1, 4), 6);
    }

    static void stockOfOtherKindsIs0() {
        for (int kind = 1; kind < 13; kind++) {
            WeaveHall hall = Nets.around(kind);
            if (kind != 9) {
                hall.feed(1, 5);
                Due.due("KIND " + kind, hall.told(0, 5), 0);
                hall.run(0, 2000, 0);
                Due.due("KIND " + kind, hall.told(0, 5), 0);
            }
        }
    }

    static void feedFrom0To200() {
        Due.due("none yet", Nets.alone(0).told(0, 5), 0);
        WeaveHall hall = Nets.pair(50, Nets.upFrom(1, 200));
        Due.due("all", hall.told(0, 5), 200);
        hall.run(0, 2000, 0);
        Due.due("written, and yet the FEED", hall.told(0, 5), 200);
    }

    static void stepsFrom0To12() {
        WeaveHall hall = Nets.alone(13);
        for (int i = 0; i < 12; i++) {
            Due.due("STEPS", hall.told(0, 5), i);
            hall.step(0, 7, 0, 0);
        }
        Due.due("STEPS", hall.told(0, 5), 12);
    }

    static void clothFromNothingOn() {
        WeaveHall hall = Nets.pair(1, 7, 8);
        Due.due("ahead of a RUN", hall.told(1, 5), 0);
        hall.run(0, 1, 0);
        Due.due("none read", hall.told(1, 5), 0);
        hall.run(1, 1, 0);
        Due.due("one read", hall.told(1, 5), 1);
        hall.run(0, 2000, 0);
        Due.due("all", hall.told(1, 5), 2);
        hall.reset();
        Due.due("behind reset()", hall.told(1, 5), 0);
    }

    /** 300 are kept, all are told. */
    static void clothBeyond300() {
        for (int repeat = 19; repeat <= 20; repeat++) {
            WeaveHall hall = Nets.line(2, repeat, Nets.upFrom(1, 16));
            Due.due("FINISHED", hall.run(0, 2000, 0), 0);
            Due.due("CLOTH", hall.told(2, 5), 16 * repeat);
        }
    }

    static void manyAreReadAndWritten() {
        WeaveHall hall = Nets.endless();
        for (int i = 0; i < 20; i++) {
            hall.run(0, 2000, 0);
        }
        Due.due("read", hall.told(0, 3), 20000);
        Due.due("written", hall.told(0, 4), 20000);
    }
}
