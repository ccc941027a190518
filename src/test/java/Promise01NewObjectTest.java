/** Promise 1, a new object: no WEAVERS, no BANDS, and nothing that rests on them. */
public final class Promise01NewObjectTest {
    public static void main(String[] args) {
        Due.cases(Promise01NewObjectTest.class);
    }

    static void nothingIsCounted() {
        WeaveHall hall = new WeaveHall();
        Due.due("WEAVERS", hall.count(0), 0);
        Due.due("BANDS", hall.count(1), 0);
        Due.due("ACTS", hall.count(2), 0);
        Due.due("WIDENED", hall.count(3), 0);
        Due.due("a RUN", hall.count(5), 0);
        Due.due("parts", hall.count(6), 0);
    }

    static void withoutPortsItIsWhole() {
        Due.due("WHOLE", new WeaveHall().count(4), 1);
    }

    static void everyNumberOfAWeaverIsBad() {
        WeaveHall hall = new WeaveHall();
        for (int i = -1; i <= 40; i++) {
            Due.due("told(" + i + ", 0)", hall.told(i, 0), WeaveHall.BAD);
            Due.due("failure(" + i + ", 0)", hall.failure(i, 0), WeaveHall.BAD);
            Due.due("balance(" + i + ")", hall.balance(i), WeaveHall.BAD);
            Due.due("woven(" + i + ", 0)", hall.woven(i, 0), 0);
        }
    }

    static void everyNumberOfABandIsBad() {
        WeaveHall hall = new WeaveHall();
        for (int i = -1; i <= 60; i++) {
            Due.due("bandTold(" + i + ", 0)", hall.bandTold(i, 0), WeaveHall.BAD);
            Due.due("history(" + i + ", 0)", hall.history(i, 0), 0);
            Due.due("digest(" + i + ")", hall.digest(i), 0);
        }
    }

    static void nothingWasWidened() {
        Due.due("widened(0)", new WeaveHall().widened(0), WeaveHall.BAD);
    }

    static void nothingCanBeChanged() {
        WeaveHall hall = new WeaveHall();
        Due.due("feed(0, 1)", hall.feed(0, 1), WeaveHall.BAD);
        Due.due("step(0, 7, 0, 0)", hall.step(0, 7, 0, 0), WeaveHall.BAD);
        Due.due("band(0, 0, 0, 0, 1)", hall.band(0, 0, 0, 0, 1), WeaveHall.BAD);
        Due.due("width(0, 1)", hall.width(0, 1), WeaveHall.BAD);
        Due.due("WEAVERS", hall.count(0), 0);
        Due.due("BANDS", hall.count(1), 0);
    }

    static void noRunHasBegun() {
        Due.due("reset()", new WeaveHall().reset(), WeaveHall.NOT);
    }

    static void clearFindsNobody() {
        Due.due("clear()", new WeaveHall().clear(), 0);
    }

    static void aRunOfNothingIsFinishedAndHasBegun() {
        for (int way = 0; way < 4; way++) {
            WeaveHall hall = new WeaveHall();
            Due.due("run(" + way + ", 1, 0)", hall.run(way, 1, 0), 0);
            Due.due("a RUN", hall.count(5), 1);
            Due.due("ACTS", hall.count(2), 0);
            Due.due("weaver(0, 0)", hall.weaver(0, 0), WeaveHall.NOT);
            Due.due("reset()", hall.reset(), 0);
            Due.due("weaver(0, 0)", hall.weaver(0, 0), 0);
        }
    }

    static void oneObjectKnowsNothingOfAnother() {
        WeaveHall full = Nets.begun();
        WeaveHall hall = new WeaveHall();
        Due.due("WEAVERS", hall.count(0), 0);
        Due.due("the first number", hall.weaver(9, 0), 0);
        Due.due("the other's WEAVERS", full.count(0), 5);
        hall.clear();
        Due.due("the other's WEAVERS", full.count(0), 5);
        Due.due("the other's ACTS", full.count(2), 6);
    }
}
