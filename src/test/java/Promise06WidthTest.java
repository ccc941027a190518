/** Promise 6, width: what it was; the bounds 1 and 50, NOT in a RUN. */
public final class Promise06WidthTest {
    public static void main(String[] args) {
        Due.cases(Promise06WidthTest.class);
    }

    private static void bad(int band, int n) {
        Twins.refused("width(" + band + ", " + n + ")", WeaveHall.BAD, Nets::small, hall -> hall.width(band, n));
    }

    static void itAnswersWhatItWas() {
        WeaveHall hall = Nets.small();
        Due.due("width(3, 9)", hall.width(3, 9), 4);
        Due.due("width(3, 9)", hall.width(3, 9), 9);
        Due.due("width(3, 2)", hall.width(3, 2), 9);
        Due.due("WIDTH", hall.bandTold(3, 0), 2);
        Due.due("another's", hall.bandTold(2, 0), 3);
    }

    static void bandBelow0IsBad() {
        bad(-1, 5);
    }

    static void bandBehindTheLastIsBad() {
        bad(4, 5);
    }

    static void numbersFarAwayAreBad() {
        for (int far : Nets.FAR) {
            bad(far, 5);
            bad(0, far);
        }
    }

    static void width0IsBad() {
        bad(0, 0);
        bad(0, -1);
    }

    static void width1IsTheLeast() {
        WeaveHall hall = Nets.small();
        Due.due("width(3, 1)", hall.width(3, 1), 4);
        Due.due("WIDTH", hall.bandTold(3, 0), 1);
    }

    static void width50IsTheGreatest() {
        WeaveHall hall = Nets.small();
        Due.due("width(3, 50)", hall.width(3, 50), 4);
        Due.due("WIDTH", hall.bandTold(3, 0), 50);
    }

    static void width51IsBad() {
        bad(0, 51);
    }

    static void band59HasOne() {
        WeaveHall hall = Nets.scripts(60);
        Due.due("width(59, 7)", hall.width(59, 7), 10);
        Due.due("WIDTH", hall.bandTold(59, 0), 7);
        Due.due("no BAND 60", hall.width(60, 7), WeaveHall.BAD);
    }

    static void withoutBandsItIsBad() {
        Due.due("width(0, 5)", Nets.alone(1).width(0, 5), WeaveHall.BAD);
    }

    static void notInARun() {
        Twins.refused("width(0, 5)", WeaveHall.NOT, Nets::begun, hall -> hall.width(0, 5));
    }

    static void badIsAheadOfNot() {
        Twins.refused("width(4, 5)", WeaveHall.BAD, Nets::begun, hall -> hall.width(4, 5));
        Twins.refused("width(0, 51)", WeaveHall.BAD, Nets::begun, hall -> hall.width(0, 51));
        Twins.refused("width(0, 0)", WeaveHall.BAD, Nets::begun, hall -> hall.width(0, 0));
    }

    static void theRunGoesByTheNewOne() {
        WeaveHall hall = Nets.pair(1, 1, 2, 3, 4, 5);
        hall.width(0, 3);
        hall.run(2, 3, 0);
        Due.due("on it", hall.bandTold(0, 1), 3);
        Due.due("WAITS to write", hall.told(0, 1), 2);
        hall.reset();
        Due.due("behind reset", hall.width(0, 2), 3);
        hall.run(2, 2, 0);
        Due.due("on it", hall.bandTold(0, 1), 2);
        Due.due("WAITS to write", hall.told(0, 1), 2);
    }

    /** SOURCE 0 writes to PORT 1 in of a SUM that WAITS for itself at PORT 0. */
    static void behindAWideningAndResetItIsAsTold() {
        WeaveHall hall = new WeaveHall();
        Due.source(hall, 1, 2, 3, 4, 5, 6, 7);
        hall.weaver(6, 0);
        hall.band(0, 0, 1, 1, 3);
        hall.band(1, 0, 1, 0, 1);
        Due.due("FINISHED", hall.run(0, 2000, 0), 0);
        Due.due("WIDENED", hall.bandTold(0, 0), 12);
        Due.due("in the RUN", hall.width(0, 5), WeaveHall.NOT);
        hall.reset();
        Due.due("width(0, 5)", hall.width(0, 5), 3);
        Due.due("FINISHED", hall.run(0, 2000, 0), 0);
        Due.due("WIDENED once", hall.bandTold(0, 0), 10);
    }
}
