/** Promise 7, clear: nothing is there any more, be it in a RUN or not. */
public final class Promise07ClearTest {
    public static void main(String[] args) {
        Due.cases(Promise07ClearTest.class);
    }

    /** Behind clear() a hall is as a new one is. */
    private static void isAsNew(WeaveHall hall) {
        for (int what = 0; what < 7; what++) {
            Due.due("count(" + what + ")", hall.count(what), what == 4 ? 1 : 0);
        }
        Due.due("told(0, 0)", hall.told(0, 0), WeaveHall.BAD);
        Due.due("bandTold(0, 0)", hall.bandTold(0, 0), WeaveHall.BAD);
        Due.due("balance(0)", hall.balance(0), WeaveHall.BAD);
        Due.due("widened(0)", hall.widened(0), WeaveHall.BAD);
        for (int i = 0; i < 5; i++) {
            Due.due("failure", hall.failure(i, 0), WeaveHall.BAD);
            Due.due("woven", hall.woven(i, 0), 0);
            Due.due("history", hall.history(i, 0), 0);
            Due.due("digest", hall.digest(i), 0);
        }
        Due.due("reset()", hall.reset(), WeaveHall.NOT);
    }

    static void ofNothingIs0() {
        WeaveHall hall = new WeaveHall();
        Due.due("clear()", hall.clear(), 0);
        isAsNew(hall);
    }

    static void ofOneIs1() {
        WeaveHall hall = Nets.alone(9);
        Due.due("clear()", hall.clear(), 1);
        isAsNew(hall);
    }

    static void ofAllFortyIs40() {
        WeaveHall hall = Nets.fullOfWeavers();
        Due.due("clear()", hall.clear(), 40);
        isAsNew(hall);
    }

    static void twiceIs0() {
        WeaveHall hall = Nets.small();
        Due.due("clear()", hall.clear(), 5);
        Due.due("clear()", hall.clear(), 0);
        isAsNew(hall);
    }

    static void aheadOfARun() {
        WeaveHall hall = Nets.small();
        hall.clear();
        isAsNew(hall);
    }

    static void inARun() {
        WeaveHall hall = Nets.begun();
        Due.due("clear()", hall.clear(), 5);
        isAsNew(hall);
    }

    static void behindARunThatSticks() {
        WeaveHall hall = Nets.doubling(50);
        Due.due("STICKS", Nets.toTheEnd(hall, 0), 2);
        Due.due("clear()", hall.clear(), 2);
        isAsNew(hall);
    }

    static void behindARunThatIsFull() {
        WeaveHall hall = Nets.endless();
        Due.due("FULL", Nets.toTheEnd(hall, 0), WeaveHall.FULL);
        Due.due("clear()", hall.clear(), 1);
        isAsNew(hall);
        Due.due("a RUN again", hall.run(0, 1, 0), 0);
    }

    static void afterOneThatIsNotWhole() {
        WeaveHall hall = Nets.open();
        Due.due("not WHOLE", hall.count(4), 0);
        hall.clear();
        isAsNew(hall);
        Due.due("a RUN of nothing", hall.run(0, 1, 0), 0);
    }

    static void theSameNetAgainRunsTheSame() {
        WeaveHall hall = Nets.begun();
        hall.clear();
        Due.source(hall, 1, 2, 3);
        Due.source(hall, 4, 5);
        Due.script(hall, 0, 0, 0, 1, 1, 0, 6, 1, 1, 1, 0, 1);
        Due.collect(hall);
        Due.collect(hall);
        hall.band(0, 0, 2, 0, 1);
        hall.band(1, 0, 2, 1, 2);
        hall.band(2, 0, 3, 0, 3);
        hall.band(2, 1, 4, 0, 4);
        WeaveHall other = Nets.small();
        Due.due("FINISHED", hall.run(3, 2000, 5), other.run(3, 2000, 5));
        Due.due("ACTS", hall.count(2), other.count(2));
        for (int i = 0; i < 4; i++) {
            Due.dueAll("HISTORY", Due.past(hall, i), Due.past(other, i));
            Due.due("the most", hall.bandTold(i, 2), other.bandTold(i, 2));
        }
    }

    /** MERGE 2 and SORT 3 hold something and know that a PORT ENDED; what comes in their place does not. */
    static void nothingIsHeldAnyMore() {
        for (int acts = 1; acts < 30; acts++) {
            WeaveHall hall = new WeaveHall();
            merging(hall);
            hall.run(0, acts, 0);
            hall.clear();
            merging(hall);
            Due.due("FINISHED", hall.run(0, 2000, 0), 0);
            Due.dueAll("CLOTH", Due.cloth(hall, 4), 1, 4, 8, 9);
        }
    }

    private static void merging(WeaveHall hall) {
        Due.source(hall, 9, 1);
        Due.source(hall, 8, 4);
        hall.weaver(4, 0);
        hall.weaver(11, 4);
        Due.collect(hall);
        hall.band(0, 0, 2, 0, 1);
        hall.band(1, 0, 2, 1, 1);
        hall.band(2, 0, 3, 0, 1);
        hall.band(3, 0, 4, 0, 1);
    }

    /** TEAR 1 has read, written and FAILED; the SHIFT in its place has not. */
    static void whatComesInAPlaceHasDoneNothing() {
        WeaveHall hall = Nets.line(12, 1, 7, 8);
        hall.run(0, 2000, 0);
        hall.clear();
        for (int i = 0; i < 3; i++) {
            hall.weaver(1, 0);
            Due.due("can go on", hall.told(i, 1), 0);
            Due.due("read", hall.told(i, 3), 0);
            Due.due("written", hall.told(i, 4), 0);
            Due.due("FEED, CLOTH", hall.told(i, 5), 0);
            Due.due("where", hall.failure(i, 0), WeaveHall.BAD);
            Due.due("why", hall.failure(i, 1), WeaveHall.BAD);
        }
        hall.band(0, 0, 1, 0, 3);
        int[] want = {3, 0, 0, 0, 0, 0, 0, 1};
        for (int what = 0; what < 8; what++) {
            Due.due("bandTold(0, " + what + ")", hall.bandTold(0, what), want[what]);
        }
        Due.due("digest(0)", hall.digest(0), 7);
        Due.due("history(0, 0)", hall.history(0, 0), 0);
    }

    /** A SOURCE that had a FEED, a COLLECT that had a CLOTH, a SCRIPT that had STEPS: anew, they have none. */
    static void theSameKindInAPlaceHasNothingEither() {
        WeaveHall hall = Nets.begun();
        hall.run(0, 2000, 0);
        hall.clear();
        for (int kind : new int[] {0, 0, 13, 9, 9}) {
            int number = hall.weaver(kind, 0);
            Due.due("FEED, STEPS, CLOTH of KIND " + kind, hall.told(number, 5), 0);
            Due.due("woven", hall.woven(number, 0), 0);
        }
    }

    static void numbersBeginAnew() {
        WeaveHall hall = Nets.small();
        hall.clear();
        Due.due("WEAVER", hall.weaver(1, 0), 0);
        Due.due("BAND", hall.band(0, 0, 0, 0, 9), 0);
        Due.due("WIDTH", hall.bandTold(0, 0), 9);
        Due.due("WHOLE", hall.count(4), 1);
    }
}
