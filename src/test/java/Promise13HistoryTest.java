/** Promise 13, history: PATTERN i of a HISTORY, of which the first 300 are kept; 0 of none such. */
public final class Promise13HistoryTest {
    public static void main(String[] args) {
        Due.cases(Promise13HistoryTest.class);
    }

    /** BAND 1 with so many PATTERNS, 1, 1, .. 2, 2, .. */
    private static WeaveHall written(int fed, int repeat) {
        WeaveHall hall = Nets.line(2, repeat, Nets.upFrom(1, fed));
        Due.due("FINISHED", Nets.toTheEnd(hall, 0), 0);
        Due.due("HISTORY", hall.bandTold(1, 3), fed * repeat);
        return hall;
    }

    static void iBelow0Is0() {
        WeaveHall hall = written(4, 1);
        Due.due("history(1, -1)", hall.history(1, -1), 0);
        Due.due("history(1, -300)", hall.history(1, -300), 0);
    }

    static void theFirstIs0() {
        Due.due("history(1, 0)", written(4, 1).history(1, 0), 1);
    }

    static void theLastAndOneBehindIt() {
        WeaveHall hall = written(4, 1);
        Due.due("history(1, 3)", hall.history(1, 3), 4);
        Due.due("history(1, 4)", hall.history(1, 4), 0);
    }

    static void iFarAwayIs0() {
        WeaveHall hall = written(4, 1);
        for (int far : Nets.FAR) {
            Due.due("history(1, " + far + ")", hall.history(1, far), 0);
        }
    }

    static void nothingWrittenYet() {
        WeaveHall hall = Nets.pair(1, 7);
        Due.due("ahead of a RUN", hall.history(0, 0), 0);
        hall.run(0, 1, 0);
        Due.due("written, not yet read", hall.history(0, 0), 7);
    }

    static void of299TheLastIs298() {
        WeaveHall hall = written(23, 13);
        Due.due("history(1, 298)", hall.history(1, 298), 23);
        Due.due("history(1, 299)", hall.history(1, 299), 0);
    }

    static void of300TheLastIs299() {
        WeaveHall hall = written(100, 3);
        Due.due("history(1, 299)", hall.history(1, 299), 100);
        Due.due("history(1, 300)", hall.history(1, 300), 0);
    }

    static void of301TheLastKeptIs299() {
        WeaveHall hall = written(43, 7);
        Due.due("history(1, 299)", hall.history(1, 299), 43);
        Due.due("history(1, 300)", hall.history(1, 300), 0);
        Due.due("history(1, 301)", hall.history(1, 301), 0);
    }

    static void ofManyTheFirst300AreKept() {
        WeaveHall hall = written(200, 4);
        for (int i = 0; i < 300; i += 13) {
            Due.due("history(1, " + i + ")", hall.history(1, i), 1 + i / 4);
        }
        Due.due("history(1, 299)", hall.history(1, 299), 75);
        for (int i : new int[] {300, 301, 511, 512, 799, 800}) {
            Due.due("history(1, " + i + ")", hall.history(1, i), 0);
        }
    }

    static void noSuchBandHasNone() {
        WeaveHall hall = written(4, 1);
        Due.due("history(-1, 0)", hall.history(-1, 0), 0);
        Due.due("history(2, 0)", hall.history(2, 0), 0);
        Due.due("history(60, 0)", hall.history(60, 0), 0);
        for (int far : Nets.FAR) {
            Due.due("history(" + far + ", 0)", hall.history(far, 0), 0);
        }
    }

    static void ofAFullNetTheLastBandHasOne() {
        WeaveHall hall = new WeaveHall();
        for (int i = 0; i < 20; i++) {
            Due.script(hall, 2, 0, i, 1, 0, 0, 2, 0, 100 + i, 1, 1, 0, 0, 0, 0, 0, 1, 0);
        }
        for (int i = 0; i < 40; i++) {
            hall.band(i % 20, i / 20, (i + 1) % 20, i / 20, 2);
        }
        for (int i = 0; i < 20; i++) {
            int shift = hall.weaver(3, i);
            hall.band(shift, 0, shift, 0, 1);
        }
        Due.due("BANDS", hall.count(1), 60);
        Due.due("ACTS done", hall.run(0, 200, 0), 1);
        Due.due("history(39, 0)", hall.history(39, 0), 119);
        Due.due("history(59, 0)", hall.history(59, 0), 19);
        Due.due("history(60, 0)", hall.history(60, 0), 0);
    }

    static void whatIsWrittenToOneWhoIsOverIsInIt() {
        WeaveHall hall = Nets.line(12, 1, 7, 8, 9);
        hall.width(0, 1);
        Due.due("FINISHED", hall.run(1, 2000, 0), 0);
        Due.dueAll("HISTORY", Due.past(hall, 0), 7, 8, 9);
        Due.dueAll("HISTORY", Due.past(hall, 1), 7);
    }

    static void theEndsOfTheLongsAreKept() {
        WeaveHall hall = Nets.pair(1, Long.MIN_VALUE, Long.MAX_VALUE);
        hall.run(0, 2000, 0);
        Due.dueAll("HISTORY", Due.past(hall, 0), Long.MIN_VALUE, Long.MAX_VALUE);
    }

    static void behindResetThereIsNone() {
        WeaveHall hall = written(4, 1);
        hall.reset();
        for (int i = 0; i < 4; i++) {
            Due.due("history(1, " + i + ")", hall.history(1, i), 0);
        }
        hall.run(0, 1, 0);
        Due.due("history(0, 0)", hall.history(0, 0), 1);
        Due.due("history(0, 1)", hall.history(0, 1), 0);
    }

    /** SUM of ends that go round, each way. */
    static void sumsGoRound() {
        WeaveHall hall = new WeaveHall();
        Due.source(hall, Long.MAX_VALUE, Long.MIN_VALUE, Long.MIN_VALUE, Long.MAX_VALUE);
        Due.source(hall, 1, -1, Long.MIN_VALUE, Long.MAX_VALUE);
        hall.weaver(6, 0);
        Due.collect(hall);
        hall.band(0, 0, 2, 0, 1);
        hall.band(1, 0, 2, 1, 1);
        hall.band(2, 0, 3, 0, 1);
        Due.due("FINISHED", hall.run(0, 2000, 0), 0);
        Due.dueAll("SUM", Due.past(hall, 2), Long.MIN_VALUE, Long.MAX_VALUE, 0, -2);
    }

    static void toTellChangesNothing() {
        Twins.changesNothing("history(0, 0)", Nets::begun, hall -> hall.history(0, 0));
        Twins.changesNothing("history(0, 300)", Nets::begun, hall -> hall.history(0, 300));
        Twins.changesNothing("history(-1, 0)", Nets::begun, hall -> hall.history(-1, 0));
    }
}
