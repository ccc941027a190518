/** Promises 10 to 14 and 16: told, woven, bandTold, history, digest, failure: edges and wrong inputs. */
public final class ToldTest {
    public static void main(String[] args) {
        aheadOfRun();
        whatTheyDo();
        wrongNumbers();
        theFirstThreeHundred();
        digests();
        failureThroughManyBands();
        Due.end();
    }

    private static void aheadOfRun() {
        WeaveHall hall = new WeaveHall();
        Due.source(hall, 1);
        Due.collect(hall);
        hall.weaver(12, 0);
        Due.script(hall, 7, 0, 0, 7, 0, 0);
        for (int i = 0; i < 4; i++) {
            Due.due("can go on", hall.told(i, 1), 0);
            Due.due("no PORT", hall.told(i, 2), WeaveHall.NONE);
            Due.due("read", hall.told(i, 3), 0);
            Due.due("wrote", hall.told(i, 4), 0);
        }
        Due.due("FEED", hall.told(0, 5), 1);
        Due.due("CLOTH", hall.told(1, 5), 0);
        Due.due("none of a TEAR", hall.told(2, 5), 0);
        Due.due("STEPS", hall.told(3, 5), 2);
        hall.band(0, 0, 1, 0, 4);
        int[] want = {4, 0, 0, 0, 0, 0, 0, 1};
        for (int i = 0; i < 8; i++) {
            Due.due("bandTold(0, " + i + ")", hall.bandTold(0, i), want[i]);
        }
        Due.due("digest(0)", hall.digest(0), 7);
        Due.due("history(0, 0)", hall.history(0, 0), 0);
        Due.due("failure(2, 0)", hall.failure(2, 0), WeaveHall.BAD);
    }

    private static void whatTheyDo() {
        WeaveHall hall = new WeaveHall();
        // SHIFT 7 and COPY 5 WAIT for each other for ever, and with them the SELECT at PORT 2
        Due.source(hall, 5, 6, 7, 8);
        hall.weaver(8, 0);
        hall.weaver(7, 0);
        Due.source(hall);
        hall.weaver(10, 0);
        hall.weaver(8, 0);
        Due.collect(hall);
        hall.band(0, 0, 1, 0, 1);
        hall.band(1, 0, 2, 0, 1);
        hall.band(1, 1, 2, 1, 1);
        hall.band(3, 0, 4, 0, 1);
        hall.weaver(1, 0);
        hall.band(7, 0, 5, 0, 1);
        hall.band(5, 0, 7, 0, 1);
        hall.band(5, 1, 2, 2, 1);
        hall.band(2, 0, 6, 0, 1);
        Due.collect(hall);
        hall.band(4, 0, 8, 0, 1);
        Due.due("till it is stuck", Due.untilStill(hall, 0) > 9 ? 1 : 0, 1);
        Due.due("SOURCE WAITS to write", hall.told(0, 1), 2);
        Due.due("at PORT 0", hall.told(0, 2), 0);
        Due.due("COPY WAITS to write", hall.told(1, 1), 2);
        Due.due("at PORT 1", hall.told(1, 2), 1);
        Due.due("SELECT WAITS to read", hall.told(2, 1), 1);
        Due.due("at PORT 2", hall.told(2, 2), 2);
        Due.due("SELECT read", hall.told(2, 3), 1);
        Due.due("SOURCE 3 ENDED", hall.told(3, 1), 3);
        Due.due("no PORT", hall.told(3, 2), WeaveHall.NONE);
        Due.due("COUNT ENDED", hall.told(4, 1), 3);
        Due.due("COPY 5 WAITS to read", hall.told(5, 1), 1);
        Due.due("at PORT 0", hall.told(5, 2), 0);
        Due.due("COLLECT 6 WAITS", hall.told(6, 1), 1);
        Due.due("BAND 0 full", hall.bandTold(0, 1), 1);
        Due.due("BAND 2 full", hall.bandTold(2, 1), 1);
        Due.due("BAND 3 ENDED", hall.bandTold(3, 4), 1);
        Due.due("BAND 0 not", hall.bandTold(0, 4), 0);
        Due.due("it is WIDENED, and FINISHED", hall.run(0, 2000, 0), 0);
        Due.due("SOURCE 0 ENDED", hall.told(0, 1), 3);
        Due.due("COPY ENDED", hall.told(1, 1), 3);
        Due.due("SELECT still WAITS", hall.told(2, 1), 1);
    }

    private static void wrongNumbers() {
        WeaveHall hall = new WeaveHall();
        Due.source(hall, 6, 7);
        Due.collect(hall);
        hall.band(0, 0, 1, 0, 1);
        hall.run(0, 2000, 0);
        int[] edges = {Integer.MIN_VALUE, -1, 40, Integer.MAX_VALUE};
        for (int n : edges) {
            Due.due("told(" + n + ", 0)", hall.told(n, 0), WeaveHall.BAD);
            Due.due("told(0, " + n + ")", hall.told(0, n), WeaveHall.BAD);
            Due.due("bandTold(" + n + ", 0)", hall.bandTold(n, 0), WeaveHall.BAD);
            Due.due("bandTold(0, " + n + ")", hall.bandTold(0, n), WeaveHall.BAD);
            Due.due("woven(" + n + ", 0)", hall.woven(n, 0), 0);
            Due.due("woven(1, " + n + ")", hall.woven(1, n), 0);
            Due.due("history(" + n + ", 0)", hall.history(n, 0), 0);
            Due.due("history(0, " + n + ")", hall.history(0, n), 0);
            Due.due("digest(" + n + ")", hall.digest(n), 0);
            Due.due("widened(" + n + ")", hall.widened(n), WeaveHall.BAD);
            Due.due("failure(" + n + ", 0)", hall.failure(n, 0), WeaveHall.BAD);
            Due.due("balance(" + n + ")", hall.balance(n), WeaveHall.BAD);
            Due.due("count(" + n + ")", hall.count(n), WeaveHall.BAD);
        }
        Due.due("told(0, 6)", hall.told(0, 6), WeaveHall.BAD);
        Due.due("told(2, 0)", hall.told(2, 0), WeaveHall.BAD);
        Due.due("bandTold(0, 8)", hall.bandTold(0, 8), WeaveHall.BAD);
        Due.due("bandTold(1, 0)", hall.bandTold(1, 0), WeaveHall.BAD);
        Due.due("digest(1)", hall.digest(1), 0);
        Due.due("woven(1, 1)", hall.woven(1, 1), 7);
        Due.due("woven(1, 2)", hall.woven(1, 2), 0);
        Due.due("woven of a SOURCE", hall.woven(0, 0), 0);
        Due.due("history(0, 1)", hall.history(0, 1), 7);
        Due.due("history(0, 2)", hall.history(0, 2), 0);
    }

    private static void theFirstThreeHundred() {
        WeaveHall hall = new WeaveHall();
        Due.source(hall);
        for (int i = 0; i < 200; i++) {
            hall.feed(0, i + 1);
        }
        hall.weaver(2, 2);
        Due.collect(hall);
        hall.band(0, 0, 1, 0, 50);
        hall.band(1, 0, 2, 0, 50);
        Due.due("run", hall.run(2, 2000, 0), 0);
        Due.due("woven(2, 299)", hall.woven(2, 299), 150);
        Due.due("woven(2, 300)", hall.woven(2, 300), 0);
        Due.due("history(1, 299)", hall.history(1, 299), 150);
        Due.due("history(1, 300)", hall.history(1, 300), 0);
        Due.due("history(1, 399)", hall.history(1, 399), 0);
        Due.due("all are counted", hall.bandTold(1, 3), 400);
        Due.due("all of the CLOTH", hall.told(2, 5), 400);
        Due.due("history(0, 199)", hall.history(0, 199), 200);
        long h = 7;
        for (int i = 0; i < 400; i++) {
            h = 31 * h + i / 2 + 1;
        }
        Due.due("all are in the DIGEST", hall.digest(1), h);
    }

    private static void digests() {
        WeaveHall hall = new WeaveHall();
        Due.source(hall, -1, Long.MAX_VALUE, 0);
        Due.collect(hall);
        hall.band(0, 0, 1, 0, 1);
        hall.run(0, 1, 0);
        Due.due("of one", hall.digest(0), 31 * 7 - 1);
        hall.run(0, 2000, 0);
        Due.due("of three", hall.digest(0), 31 * (31L * 216 + Long.MAX_VALUE));
    }

    private static void failureThroughManyBands() {
        WeaveHall hall = new WeaveHall();
        Due.source(hall, 1, 2);
        for (int i = 1; i < 39; i++) {
            hall.weaver(i == 5 ? 12 : 1 + i % 3, 1);
        }
        Due.collect(hall);
        for (int i = 0; i < 39; i++) {
            Due.due("band", hall.band(i, 0, i + 1, 0, 3), i);
        }
        int answer = hall.run(1, 2000, 0);
        Due.due("run", answer, 0);
        for (int i = 0; i < 40; i++) {
            Due.due("where " + i, hall.failure(i, 0), i < 5 ? WeaveHall.BAD : 5);
            Due.due("why " + i, hall.failure(i, 1), i < 5 ? WeaveHall.BAD : 1);
        }
    }
}
