/** Promise 2, weaver: numbers as they come, the bounds of KIND and a, NOT in a RUN, FULL behind 40. */
public final class Promise02WeaverTest {
    private static final int MIN = Integer.MIN_VALUE, MAX = Integer.MAX_VALUE;

    public static void main(String[] args) {
        Due.cases(Promise02WeaverTest.class);
    }

    private static void bad(int kind, int a) {
        Twins.refused("weaver(" + kind + ", " + a + ")", WeaveHall.BAD, Nets::small, hall -> hall.weaver(kind, a));
    }

    private static void taken(int kind, int a) {
        WeaveHall hall = new WeaveHall();
        Due.due("weaver(" + kind + ", " + a + ")", hall.weaver(kind, a), 0);
        Due.due("its KIND", hall.told(0, 0), kind);
        Due.due("WEAVERS", hall.count(0), 1);
    }

    static void kindBelow0IsBad() {
        bad(-1, 1);
        bad(MIN, 1);
    }

    static void kind0IsTheFirstTaken() {
        taken(0, 1);
    }

    static void kind13IsTheLastTaken() {
        taken(13, 1);
    }

    static void kindAbove13IsBad() {
        bad(14, 1);
        bad(MAX, 1);
    }

    static void everyKindBetweenIsTaken() {
        for (int kind = 0; kind < 14; kind++) {
            taken(kind, 1);
        }
    }

    static void repeatTakes0To20() {
        bad(2, MIN);
        bad(2, -1);
        taken(2, 0);
        taken(2, 20);
        bad(2, 21);
        bad(2, MAX);
    }

    static void splitTakes1To1000() {
        bad(5, MIN);
        bad(5, -1);
        bad(5, 0);
        taken(5, 1);
        taken(5, 1000);
        bad(5, 1001);
        bad(5, MAX);
    }

    static void sortTakes1To30() {
        bad(11, MIN);
        bad(11, -1);
        bad(11, 0);
        taken(11, 1);
        taken(11, 30);
        bad(11, 31);
        bad(11, MAX);
    }

    static void tearTakes0To1000() {
        bad(12, MIN);
        bad(12, -1);
        taken(12, 0);
        taken(12, 1000);
        bad(12, 1001);
        bad(12, MAX);
    }

    static void otherKindsTakeEveryA() {
        for (int kind : new int[] {0, 1, 3, 4, 6, 7, 8, 9, 10, 13}) {
            for (int a : new int[] {MIN, -1, 0, 31, 1001, MAX}) {
                taken(kind, a);
            }
        }
    }

    static void numbersAreAsTheyCome() {
        WeaveHall hall = new WeaveHall();
        Due.due("the first", hall.weaver(9, 0), 0);
        Due.due("refused", hall.weaver(14, 0), WeaveHall.BAD);
        Due.due("the second", hall.weaver(0, 0), 1);
        Due.due("KIND of the first", hall.told(0, 0), 9);
        Due.due("KIND of the second", hall.told(1, 0), 0);
    }

    static void number39IsTheLastThen41stIsFull() {
        WeaveHall hall = new WeaveHall();
        for (int i = 0; i < 40; i++) {
            Due.due("WEAVER " + i, hall.weaver(i % 14, 1), i);
        }
        Due.due("one more", hall.weaver(0, 1), WeaveHall.FULL);
        Due.due("WEAVERS", hall.count(0), 40);
        Due.due("KIND of the last", hall.told(39, 0), 39 % 14);
        Due.due("no WEAVER 40", hall.told(40, 0), WeaveHall.BAD);
    }

    static void fullChangesNothing() {
        Twins.refused("weaver(9, 0)", WeaveHall.FULL, Nets::fullOfWeavers, hall -> hall.weaver(9, 0));
    }

    static void fullIsOverBehindClear() {
        WeaveHall hall = Nets.fullOfWeavers();
        Due.due("full", hall.weaver(9, 0), WeaveHall.FULL);
        hall.clear();
        Due.due("the first again", hall.weaver(9, 0), 0);
    }

    static void notInARun() {
        Twins.refused("weaver(9, 0)", WeaveHall.NOT, Nets::begun, hall -> hall.weaver(9, 0));
    }

    static void notInARunThatIsFinished() {
        WeaveHall hall = Nets.small();
        Due.due("FINISHED", hall.run(0, 2000, 0), 0);
        Due.due("weaver(9, 0)", hall.weaver(9, 0), WeaveHall.NOT);
    }

    static void behindResetItIsTaken() {
        WeaveHall hall = Nets.begun();
        hall.reset();
        Due.due("weaver(9, 0)", hall.weaver(9, 0), 5);
    }

    static void badIsAheadOfNot() {
        Twins.refused("weaver(14, 0)", WeaveHall.BAD, Nets::begun, hall -> hall.weaver(14, 0));
        Twins.refused("weaver(2, 21)", WeaveHall.BAD, Nets::begun, hall -> hall.weaver(2, 21));
    }

    static void badIsAheadOfFull() {
        Twins.refused("weaver(-1, 0)", WeaveHall.BAD, Nets::fullOfWeavers, hall -> hall.weaver(-1, 0));
        Twins.refused("weaver(11, 0)", WeaveHall.BAD, Nets::fullOfWeavers, hall -> hall.weaver(11, 0));
    }

    private static WeaveHall fullInARun() {
        WeaveHall hall = Nets.fullOfWeavers();
        hall.run(0, 3, 0);
        return hall;
    }

    static void notIsAheadOfFull() {
        Twins.refused("weaver(9, 0)", WeaveHall.NOT, Promise02WeaverTest::fullInARun, hall -> hall.weaver(9, 0));
    }

    static void badIsAheadOfNotAndFull() {
        Due.due("weaver(14, 0)", fullInARun().weaver(14, 0), WeaveHall.BAD);
    }

    private static void through(WeaveHall hall, long... want) {
        Due.due("FINISHED", Nets.toTheEnd(hall, 0), 0);
        Due.dueAll("CLOTH", Due.cloth(hall, 2), want);
    }

    static void repeat0WritesNothing() {
        through(Nets.line(2, 0, 7, 8));
    }

    static void repeat1WritesEachOnce() {
        through(Nets.line(2, 1, 7, 8), 7, 8);
    }

    static void repeat20WritesEachTwentyTimes() {
        through(Nets.line(2, 20, 7), Nets.same(7, 20));
    }

    static void shiftByTheLeastAndTheGreatest() {
        through(Nets.line(1, MIN, 0, 1), MIN, MIN + 1L);
        through(Nets.line(1, MAX, 0, 1), MAX, MAX + 1L);
    }

    static void shiftGoesRoundAtBothEnds() {
        through(Nets.line(1, 1, Long.MAX_VALUE), Long.MIN_VALUE);
        through(Nets.line(1, -1, Long.MIN_VALUE), Long.MAX_VALUE);
        through(Nets.line(1, MIN, Long.MIN_VALUE), Long.MAX_VALUE + (MIN + 1L));
        through(Nets.line(1, MAX, Long.MAX_VALUE), Long.MIN_VALUE + (MAX - 1L));
    }

    static void delayByTheLeastAndTheGreatest() {
        through(Nets.line(3, MIN, 6), MIN, 6);
        through(Nets.line(3, MAX, 6), MAX, 6);
    }

    private static void splits(int a, long[] feed, long[] multiples, long[] others) {
        WeaveHall hall = new WeaveHall();
        Due.source(hall, feed);
        hall.weaver(5, a);
        Due.collect(hall);
        Due.collect(hall);
        hall.band(0, 0, 1, 0, 50);
        hall.band(1, 0, 2, 0, 50);
        hall.band(1, 1, 3, 0, 50);
        Due.due("FINISHED", hall.run(0, 2000, 0), 0);
        Due.dueAll("multiples of " + a, Due.cloth(hall, 2), multiples);
        Due.dueAll("others", Due.cloth(hall, 3), others);
    }

    static void splitBy1HasMultiplesAlone() {
        long[] feed = {0, 1, -1, Long.MIN_VALUE, Long.MAX_VALUE};
        splits(1, feed, feed, new long[0]);
    }

    static void splitBy2KnowsTheLeastLong() {
        splits(2, new long[] {Long.MIN_VALUE, Long.MIN_VALUE + 1, Long.MAX_VALUE, -2, -1},
            new long[] {Long.MIN_VALUE, -2}, new long[] {Long.MIN_VALUE + 1, Long.MAX_VALUE, -1});
    }

    static void splitBy1000() {
        splits(1000, new long[] {0, 1000, -1000, 999, -999, 1001, 2000, 500, 1},
            new long[] {0, 1000, -1000, 2000}, new long[] {999, -999, 1001, 500, 1});
    }

    static void sortBy1KeepsTheOrder() {
        through(Nets.line(11, 1, 3, 1, 2), 3, 1, 2);
    }

    /** 29, 28, .. 0, then 30: the 31st is not among the first thirty. */
    static void sortBy30TakesThirtyAtOnce() {
        long[] feed = new long[32];
        for (int i = 0; i < 30; i++) {
            feed[i] = 29 - i;
        }
        feed[30] = -5;
        feed[31] = -6;
        long[] want = Nets.upFrom(0, 32);
        want[30] = -6;
        want[31] = -5;
        through(Nets.line(11, 30, feed), want);
    }

    static void sortKnowsTheEndsOfTheLongs() {
        through(Nets.line(11, 4, Long.MAX_VALUE, 0, Long.MIN_VALUE, -1), Long.MIN_VALUE, -1, 0, Long.MAX_VALUE);
    }

    static void tear0FailsWithNothingRead() {
        WeaveHall hall = Nets.line(12, 0, 7, 8);
        through(hall);
        Due.due("read", hall.told(1, 3), 0);
        Due.due("why", hall.failure(1, 1), 1);
    }

    static void tear1FailsBehindOne() {
        WeaveHall hall = Nets.line(12, 1, 7, 8);
        through(hall, 7);
        Due.due("read", hall.told(1, 3), 1);
        Due.due("why", hall.failure(1, 1), 1);
    }

    /** As many as it may read come, and no more: it is to read once more, and FAILS. */
    static void tearOfJustAsManyFails() {
        WeaveHall hall = Nets.line(12, 2, 7, 8);
        through(hall, 7, 8);
        Due.due("FAILED", hall.told(1, 1), 4);
    }

    static void tearOfOneFewerEnds() {
        WeaveHall hall = Nets.line(12, 3, 7, 8);
        through(hall, 7, 8);
        Due.due("ENDED", hall.told(1, 1), 3);
    }

    /** TEAR 2 of 1000 behind REPEAT 1. */
    private static void tears(int fed, int repeat, int doing, int read) {
        WeaveHall hall = new WeaveHall();
        Due.source(hall, Nets.upFrom(0, fed));
        hall.weaver(2, repeat);
        hall.weaver(12, 1000);
        Due.collect(hall);
        Due.due("FINISHED", Nets.toTheEnd(Nets.inARow(hall, 50), 2), 0);
        Due.due("what it does", hall.told(2, 1), doing);
        Due.due("read", hall.told(2, 3), read);
        Due.due("wrote", hall.told(2, 4), read);
    }

    static void tear1000ReadsAThousand() {
        tears(200, 6, 4, 1000);
        tears(200, 5, 4, 1000);
        tears(111, 9, 3, 999);
    }
}
