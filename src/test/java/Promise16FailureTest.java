/** Promise 16, failure: where and why a WEAVER FAILED; BAD of one that did not. */
public final class Promise16FailureTest {
    private static final int READ = 0, WRITE = 1, LET = 2, GO = 5, TRY = 6, FAIL = 7;

    public static void main(String[] args) {
        Due.cases(Promise16FailureTest.class);
    }

    private static WeaveHall torn() {
        WeaveHall hall = Nets.line(12, 1, 7, 8);
        hall.run(0, 2000, 0);
        return hall;
    }

    private static void failed(WeaveHall hall, int weaver, int where, int why) {
        Due.due("FAILED: " + weaver, hall.told(weaver, 1), 4);
        Due.due("where: " + weaver, hall.failure(weaver, 0), where);
        Due.due("why: " + weaver, hall.failure(weaver, 1), why);
    }

    private static void bad(int weaver, int what) {
        Twins.refused("failure(" + weaver + ", " + what + ")", WeaveHall.BAD, Promise16FailureTest::torn,
            hall -> hall.failure(weaver, what));
    }

    private static void didNotFail(WeaveHall hall, int weaver) {
        Due.due("where: " + weaver, hall.failure(weaver, 0), WeaveHall.BAD);
        Due.due("why: " + weaver, hall.failure(weaver, 1), WeaveHall.BAD);
    }

    static void weaverBelow0IsBad() {
        bad(-1, 0);
    }

    static void weaverBehindTheLastIsBad() {
        bad(3, 0);
    }

    static void whatBelow0IsBad() {
        bad(1, -1);
    }

    static void whatAbove1IsBad() {
        bad(1, 2);
    }

    static void numbersFarAwayAreBad() {
        for (int far : Nets.FAR) {
            bad(far, 0);
            bad(1, far);
        }
    }

    static void whoEndedIsBad() {
        WeaveHall hall = torn();
        Due.due("ENDED", hall.told(0, 1), 3);
        didNotFail(hall, 0);
    }

    static void whoCanGoOnIsBad() {
        WeaveHall hall = Nets.begun();
        for (int i = 0; i < 5; i++) {
            didNotFail(hall, i);
        }
    }

    static void whoWaitsIsBad() {
        WeaveHall hall = Nets.alone(1);
        hall.band(0, 0, 0, 0, 1);
        hall.run(0, 1, 0);
        Due.due("WAITS", hall.told(0, 1), 1);
        didNotFail(hall, 0);
    }

    static void aheadOfARunIsBad() {
        didNotFail(Nets.line(12, 0), 1);
        WeaveHall hall = Nets.alone(13);
        hall.step(0, FAIL, 0, 0);
        didNotFail(hall, 0);
    }

    static void whoIsToFailHasNotYet() {
        WeaveHall hall = Nets.line(12, 0, 1);
        hall.run(0, 1, 0);
        didNotFail(hall, 1);
        hall.run(1, 1, 0);
        failed(hall, 1, 1, 1);
    }

    static void behindResetIsBad() {
        WeaveHall hall = torn();
        hall.reset();
        for (int i = 0; i < 3; i++) {
            didNotFail(hall, i);
        }
    }

    static void aTearIs1() {
        failed(torn(), 1, 1, 1);
        failed(torn(), 2, 1, 1);
    }

    static void aFailOfAScriptIs2() {
        WeaveHall hall = Nets.scripted(new long[] {7}, READ, 0, 0, WRITE, 0, 0, FAIL, 0, 0);
        Due.due("FINISHED", hall.run(0, 2000, 0), 0);
        for (int i = 2; i < 5; i++) {
            failed(hall, i, 2, 2);
        }
        Due.dueAll("what it wrote before", Due.cloth(hall, 3), 7);
    }

    static void hundredStepsAre3() {
        WeaveHall hall = Nets.scripted(new long[] {7}, READ, 0, 0, WRITE, 0, 0, LET, 0, 1, GO, 2, 0);
        Due.due("FINISHED", hall.run(0, 2000, 0), 0);
        for (int i = 2; i < 5; i++) {
            failed(hall, i, 2, 3);
        }
        Due.dueAll("what it wrote before", Due.cloth(hall, 3), 7);
    }

    static void byTryNobodyFails() {
        WeaveHall hall = new WeaveHall();
        hall.weaver(12, 0);
        hall.weaver(12, 0);
        Due.script(hall, TRY, 0, 0, FAIL, 0, 0, TRY, 1, 0, FAIL, 0, 0, WRITE, 0, 0);
        Due.collect(hall);
        Due.collect(hall);
        hall.band(0, 0, 2, 0, 1);
        hall.band(1, 0, 2, 1, 1);
        hall.band(2, 0, 3, 0, 1);
        hall.band(2, 1, 4, 0, 1);
        for (int i = 0; i < 2; i++) {
            hall.band(Due.source(hall), 0, i, 0, 1);
        }
        hall.run(0, 2000, 0);
        didNotFail(hall, 2);
        Due.due("it went on", hall.told(2, 4) > 100 ? 1 : 0, 1);
    }

    static void throughForty() {
        WeaveHall hall = new WeaveHall();
        Due.source(hall);
        hall.weaver(12, 0);
        for (int i = 2; i < 40; i++) {
            hall.weaver(i == 39 ? 9 : 1, 0);
        }
        Due.due("FINISHED", Nets.inARow(hall, 1).run(1, 2000, 0), 0);
        didNotFail(hall, 0);
        for (int i = 1; i < 40; i++) {
            failed(hall, i, 1, 1);
        }
        didNotFail(hall, 40);
    }

    /** SUM 2 reads PORT 0 first: the FAILURE that came there is its own, whichever was first in time. */
    static void ofTwoTheOneThatIsRead() {
        for (int way = 0; way < 4; way++) {
            WeaveHall hall = new WeaveHall();
            hall.weaver(12, 0);
            hall.weaver(12, 0);
            hall.weaver(6, 0);
            Due.collect(hall);
            hall.band(1, 0, 2, 0, 1);
            hall.band(0, 0, 2, 1, 1);
            hall.band(2, 0, 3, 0, 1);
            hall.band(Due.source(hall), 0, 0, 0, 1);
            hall.band(Due.source(hall), 0, 1, 0, 1);
            Due.due("FINISHED", hall.run(way, 2000, 0), 0);
            failed(hall, 0, 0, 1);
            failed(hall, 1, 1, 1);
            failed(hall, 2, 1, 1);
            failed(hall, 3, 1, 1);
        }
    }

    /** SOURCE 0 (7, 8), TEARS 1 (1) and 2, COLLECT 3. */
    private static WeaveHall twoTears(int second) {
        WeaveHall hall = new WeaveHall();
        Due.source(hall, 7, 8);
        hall.weaver(12, 1);
        hall.weaver(12, second);
        Due.collect(hall);
        Due.due("FINISHED", Nets.inARow(hall, 1).run(0, 2000, 0), 0);
        return hall;
    }

    /** A TEAR that reads that its BAND FAILED has its FAILURE from there, not by itself. */
    static void aTearMayFailByAnother() {
        WeaveHall hall = twoTears(2);
        failed(hall, 1, 1, 1);
        failed(hall, 2, 1, 1);
        failed(hall, 3, 1, 1);
    }

    /** A TEAR that is to read with as many read FAILS by itself, though its BAND has FAILED. */
    static void aTearWithAsManyReadFailsByItself() {
        WeaveHall hall = twoTears(1);
        failed(hall, 1, 1, 1);
        failed(hall, 2, 2, 1);
        failed(hall, 3, 2, 1);
    }

    static void toTellChangesNothing() {
        Twins.changesNothing("failure(1, 0)", Promise16FailureTest::torn, hall -> hall.failure(1, 0));
        Twins.changesNothing("failure(2, 1)", Promise16FailureTest::torn, hall -> hall.failure(2, 1));
    }
}
