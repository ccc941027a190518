/** Promise 3, feed: of a SOURCE alone, 200 at most, NOT in a RUN; any long. */
public final class Promise03FeedTest {
    public static void main(String[] args) {
        Due.cases(Promise03FeedTest.class);
    }

    private static WeaveHall fed(int length) {
        return Nets.pair(50, Nets.upFrom(1, length));
    }

    static void theFirstIsOne() {
        WeaveHall hall = Nets.alone(0);
        Due.due("FEED yet", hall.told(0, 5), 0);
        Due.due("feed(0, 9)", hall.feed(0, 9), 1);
        Due.due("feed(0, 9)", hall.feed(0, 9), 2);
        Due.due("FEED", hall.told(0, 5), 2);
    }

    static void weaverBelow0IsBad() {
        Twins.refused("feed(-1, 5)", WeaveHall.BAD, Nets::small, hall -> hall.feed(-1, 5));
    }

    static void weaverBehindTheLastIsBad() {
        Twins.refused("feed(5, 5)", WeaveHall.BAD, Nets::small, hall -> hall.feed(5, 5));
    }

    static void weaverFarAwayIsBad() {
        for (int far : Nets.FAR) {
            Twins.refused("feed(" + far + ", 5)", WeaveHall.BAD, Nets::small, hall -> hall.feed(far, 5));
        }
    }

    static void everyOtherKindIsBad() {
        for (int kind = 1; kind < 14; kind++) {
            int one = kind;
            Twins.refused("feed of KIND " + kind, WeaveHall.BAD, () -> Nets.alone(one), hall -> hall.feed(0, 5));
        }
    }

    static void weaver39IsFed() {
        WeaveHall hall = new WeaveHall();
        for (int i = 0; i < 40; i++) {
            hall.weaver(0, 0);
        }
        Due.due("feed(39, 1)", hall.feed(39, 1), 1);
        Due.due("feed(40, 1)", hall.feed(40, 1), WeaveHall.BAD);
    }

    static void the200thIsTheLast() {
        WeaveHall hall = fed(199);
        Due.due("the 200th", hall.feed(0, 200), 200);
        Due.due("the 201st", hall.feed(0, 201), WeaveHall.FULL);
        Due.due("FEED", hall.told(0, 5), 200);
    }

    static void fullChangesNothing() {
        Twins.refused("feed(0, 201)", WeaveHall.FULL, () -> fed(200), hall -> hall.feed(0, 201));
    }

    static void all200AreWritten() {
        WeaveHall hall = fed(200);
        hall.feed(0, 201);
        Due.due("FINISHED", hall.run(0, 2000, 0), 0);
        Due.dueAll("CLOTH", Due.cloth(hall, 1), Nets.upFrom(1, 200));
    }

    static void eachSourceHas200OfItsOwn() {
        WeaveHall hall = fed(200);
        hall.weaver(0, 0);
        for (int i = 1; i <= 200; i++) {
            Due.due("feed(2, ..)", hall.feed(2, i), i);
        }
        Due.due("the 201st", hall.feed(2, 0), WeaveHall.FULL);
        Due.due("FEED of the first", hall.told(0, 5), 200);
    }

    static void everyLongIsTaken() {
        long[] feed = {Long.MIN_VALUE, -1, 0, 1, Long.MAX_VALUE};
        WeaveHall hall = Nets.pair(1, feed);
        Due.due("FEED", hall.told(0, 5), 5);
        Due.due("FINISHED", hall.run(0, 2000, 0), 0);
        Due.dueAll("CLOTH", Due.cloth(hall, 1), feed);
    }

    static void withoutFeedItEndsAtOnce() {
        WeaveHall hall = Nets.pair(1);
        Due.due("run(0, 1, 0)", hall.run(0, 1, 0), 1);
        Due.due("ENDED", hall.told(0, 1), 3);
        Due.due("wrote", hall.told(0, 4), 0);
    }

    static void notInARun() {
        Twins.refused("feed(0, 5)", WeaveHall.NOT, Nets::begun, hall -> hall.feed(0, 5));
    }

    static void behindResetItIsTaken() {
        WeaveHall hall = Nets.begun();
        hall.reset();
        Due.due("feed(0, 5)", hall.feed(0, 5), 4);
        hall.run(0, 2000, 0);
        Due.due("wrote", hall.told(0, 4), 4);
        Due.due("the last of it", hall.history(0, 3), 5);
    }

    static void badIsAheadOfNot() {
        Twins.refused("feed(2, 5)", WeaveHall.BAD, Nets::begun, hall -> hall.feed(2, 5));
        Twins.refused("feed(5, 5)", WeaveHall.BAD, Nets::begun, hall -> hall.feed(5, 5));
        Twins.refused("feed(-1, 5)", WeaveHall.BAD, Nets::begun, hall -> hall.feed(-1, 5));
    }

    private static WeaveHall fullInARun() {
        WeaveHall hall = fed(200);
        hall.run(0, 3, 0);
        return hall;
    }

    static void notIsAheadOfFull() {
        Twins.refused("feed(0, 5)", WeaveHall.NOT, Promise03FeedTest::fullInARun, hall -> hall.feed(0, 5));
    }

    static void badIsAheadOfFull() {
        Due.due("feed(1, 5)", fed(200).feed(1, 5), WeaveHall.BAD);
        Due.due("feed(2, 5)", fed(200).feed(2, 5), WeaveHall.BAD);
    }

    static void clearEmptiesIt() {
        WeaveHall hall = fed(200);
        hall.clear();
        hall.weaver(0, 0);
        Due.due("FEED", hall.told(0, 5), 0);
        Due.due("feed(0, 5)", hall.feed(0, 5), 1);
    }
}
