/** Promises 8, 9 and 15: run, reset, widened; the WAYS (Terms 3), WIDENING and STICKING (Terms 2). */
public final class RunTest {
    public static void main(String[] args) {
        refusals();
        byTurns();
        fromTheLast();
        asManyAsItCan();
        byX();
        beginsAnew();
        finishedAheadOfActsDone();
        wideningWithTheActBehind();
        wideningByX();
        tightestIsWidened();
        leastWidthThenLeastNumber();
        widensToThousand();
        keptWidenings();
        fullOfActs();
        resets();
        Due.end();
    }

    /** WEAVER 0 reads what WEAVER 1 writes, and so on: SOURCE 2 (1, 2, 3), SHIFT 1, COLLECT 0. */
    private static WeaveHall chain(int width) {
        WeaveHall hall = new WeaveHall();
        Due.collect(hall);
        hall.weaver(1, 10);
        Due.source(hall, 1, 2, 3);
        hall.band(2, 0, 1, 0, width);
        hall.band(1, 0, 0, 0, width);
        return hall;
    }

    private static void doneBy(String name, WeaveHall hall, int... readsAndWrites) {
        for (int i = 0; i * 2 + 1 < readsAndWrites.length; i++) {
            Due.due(name + ": WEAVER " + i + " read", hall.told(i, 3), readsAndWrites[2 * i]);
            Due.due(name + ": WEAVER " + i + " wrote", hall.told(i, 4), readsAndWrites[2 * i + 1]);
        }
    }

    private static void refusals() {
        WeaveHall hall = chain(1);
        Due.due("run(-1, 1, 0)", hall.run(-1, 1, 0), WeaveHall.BAD);
        Due.due("run(4, 1, 0)", hall.run(4, 1, 0), WeaveHall.BAD);
        Due.due("run(0, 0, 0)", hall.run(0, 0, 0), WeaveHall.BAD);
        Due.due("run(0, -1, 0)", hall.run(0, -1, 0), WeaveHall.BAD);
        Due.due("run(0, 2001, 0)", hall.run(0, 2001, 0), WeaveHall.BAD);
        Due.due("no RUN", hall.count(5), 0);
        Due.due("reset", hall.reset(), WeaveHall.NOT);
        hall.weaver(1, 0);
        Due.due("not WHOLE", hall.run(0, 1, 0), WeaveHall.NOT);
        Due.due("BAD ahead of NOT", hall.run(4, 1, 0), WeaveHall.BAD);
        hall.band(3, 0, 3, 0, 1);
        Due.due("WHOLE", hall.run(0, 2000, 0), 0);
        Due.due("a RUN", hall.count(5), 1);
        Due.due("again", hall.run(1, 1, 0), 0);
        Due.due("all WAIT or are over", hall.told(3, 1), 1);
        Due.due("ACTS", hall.count(2), 4 + 8 + 5);
    }

    private static void byTurns() {
        WeaveHall hall = chain(1);
        Due.due("one", hall.run(0, 1, 0), 1);
        doneBy("1", hall, 0, 0, 0, 0, 0, 1);
        hall.reset();
        hall.run(0, 2, 0);
        doneBy("2", hall, 0, 0, 1, 0, 0, 1);
        hall.reset();
        // the turn comes to SOURCE 2 behind SHIFT 1
        hall.run(0, 3, 0);
        doneBy("3", hall, 0, 0, 1, 0, 0, 2);
        hall.reset();
        hall.run(0, 5, 0);
        doneBy("5", hall, 1, 0, 1, 1, 0, 2);
        hall.reset();
        hall.run(0, 6, 0);
        doneBy("6", hall, 1, 0, 2, 1, 0, 2);
    }

    private static void fromTheLast() {
        WeaveHall hall = chain(1);
        hall.run(1, 2, 0);
        doneBy("2", hall, 0, 0, 1, 0, 0, 1);
        hall.reset();
        hall.run(1, 4, 0);
        doneBy("4", hall, 0, 0, 1, 1, 0, 2);
        hall.reset();
        hall.run(1, 5, 0);
        doneBy("5", hall, 1, 0, 1, 1, 0, 2);
        hall.reset();
        // round: the last one's turn again, but it WAITS, so that SHIFT goes
        hall.run(1, 6, 0);
        doneBy("6", hall, 1, 0, 2, 1, 0, 2);
    }

    private static void asManyAsItCan() {
        WeaveHall hall = chain(2);
        hall.run(2, 2, 0);
        doneBy("2", hall, 0, 0, 0, 0, 0, 2);
        hall.reset();
        // SHIFT goes on for as long as it can, not SOURCE behind its first ACT
        hall.run(2, 6, 0);
        doneBy("6", hall, 0, 0, 2, 2, 0, 2);
        hall.reset();
        // then the one behind it, not from 0 on
        hall.run(2, 7, 0);
        doneBy("7", hall, 0, 0, 2, 2, 0, 3);
        Due.due("SOURCE not ENDED", hall.told(2, 1), 0);
        hall.reset();
        hall.run(2, 8, 0);
        Due.due("SOURCE ENDED", hall.told(2, 1), 3);
        doneBy("8", hall, 0, 0, 2, 2, 0, 3);
        hall.reset();
        hall.run(2, 10, 0);
        doneBy("10", hall, 2, 0, 2, 2, 0, 3);
    }

    private static void byX() {
        // the first: 2, 1, 2, .. of 3 SOURCES by x, reckoned here anew
        for (int x : new int[] {0, 5, -1, 123456789, Integer.MIN_VALUE}) {
            WeaveHall hall = new WeaveHall();
            int[] wrote = new int[3];
            for (int i = 0; i < 3; i++) {
                Due.source(hall, 1, 2, 3, 4, 5, 6, 7, 8, 9);
            }
            for (int i = 0; i < 3; i++) {
                Due.collect(hall);
                hall.band(i, 0, 3 + i, 0, 50);
            }
            long state = x;
            int[] reads = new int[3];
            for (int done = 1; done <= 7; done++) {
                state = (int) (state * 1103515245L + 12345L);
                int who = (int) ((state & 0xffffffffL) / 65536 % 6);
                while (who >= 3 && reads[who - 3] == wrote[who - 3]) {
                    who = (who + 1) % 6;
                }
                if (who < 3) {
                    wrote[who]++;
                } else {
                    reads[who - 3]++;
                }
                hall.reset();
                Due.due("run(3, " + done + ", " + x + ")", hall.run(3, done, x), 1);
                doneBy("by x " + x, hall, 0, wrote[0], 0, wrote[1], 0, wrote[2], reads[0], 0, reads[1], 0,
                    reads[2], 0);
            }
        }
    }

    /** Each run() begins with the first one of its WAY. */
    private static void beginsAnew() {
        WeaveHall hall = new WeaveHall();
        for (int i = 0; i < 2; i++) {
            Due.source(hall, 1, 2, 3);
            Due.collect(hall);
            hall.band(2 * i, 0, 2 * i + 1, 0, 9);
        }
        hall.run(0, 1, 0);
        hall.run(0, 1, 0);
        doneBy("up", hall, 0, 2, 0, 0, 0, 0, 0, 0);
        hall.run(1, 1, 0);
        doneBy("down", hall, 0, 2, 0, 0, 0, 1, 0, 0);
        hall.run(1, 1, 0);
        doneBy("down", hall, 0, 2, 0, 0, 0, 1, 1, 0);
        hall.reset();
        hall.run(3, 1, 5);
        int first = 0;
        for (int i = 1; i < 4; i++) {
            first = hall.told(i, 4) > 0 ? i : first;
        }
        hall.run(3, 1, 5);
        Due.due("x as it begins", hall.told(first, 4), 2);
    }

    private static void finishedAheadOfActsDone() {
        WeaveHall hall = chain(1);
        Due.due("16 of 17", hall.run(0, 16, 0), 1);
        Due.due("17", hall.run(0, 1, 0), 0);
        hall.reset();
        Due.due("17 of 17", hall.run(0, 17, 0), 0);
        Due.due("ACTS", hall.count(2), 17);
        Due.due("no more", hall.run(0, 1, 0), 0);
        Due.due("ACTS", hall.count(2), 17);
    }

    /** COPY writes to a SORT that reads all 12 ahead of what goes past it to the SUM. */
    private static WeaveHall stuckNet(int first, int second) {
        WeaveHall hall = new WeaveHall();
        Due.source(hall, 1, 2, 3, 4, 5, 6, 7, 8, 9, 10, 11, 12);
        hall.weaver(8, 0);
        hall.weaver(11, 12);
        hall.weaver(6, 0);
        Due.collect(hall);
        hall.band(0, 0, 1, 0, first);
        hall.band(1, 0, 2, 0, 1);
        hall.band(1, 1, 3, 1, second);
        hall.band(2, 0, 3, 0, 1);
        hall.band(3, 0, 4, 0, 1);
        return hall;
    }

    private static void wideningWithTheActBehind() {
        WeaveHall hall = stuckNet(1, 1);
        int acts = Due.untilStill(hall, 0);
        // COPY has 2 for PORT 1, which 1 fills, and the SOURCE 4 for BAND 0, which 3 fills: nothing is WIDENED yet
        Due.due("stuck: SOURCE wrote", hall.told(0, 4), 3);
        Due.due("stuck: COPY wrote", hall.told(1, 4), 3);
        Due.due("stuck: SORT WAITS", hall.told(2, 1), 1);
        Due.due("stuck: WIDENED", hall.count(3), 0);
        Due.due("stuck: WIDTH", hall.bandTold(0, 0), 1);
        Due.due("stuck: ACTS", hall.count(2), acts);
        Due.due("the ACT behind", hall.run(0, 1, 0), 1);
        Due.due("WIDENED", hall.count(3), 1);
        Due.due("the BAND", hall.widened(0), 0);
        Due.due("its WIDTH", hall.bandTold(0, 0), 2);
        Due.due("how often", hall.bandTold(0, 5), 1);
        Due.due("on it", hall.bandTold(0, 1), 2);
        Due.due("the most", hall.bandTold(0, 2), 2);
        Due.due("ACTS", hall.count(2), acts + 1);
        Due.due("and so on", hall.run(0, 2000, 0), 0);
        // at WIDTHS 8 and 4 the SOURCE has written all: from there on only BAND 2 is full
        Due.due("WIDENED", hall.count(3), 7);
        int[] order = {0, 2, 0, 2, 0, 2, 2};
        for (int i = 0; i < order.length; i++) {
            Due.due("widened(" + i + ")", hall.widened(i), order[i]);
        }
        Due.due("widened(7)", hall.widened(7), WeaveHall.BAD);
        Due.due("widened(-1)", hall.widened(-1), WeaveHall.BAD);
        Due.dueAll("CLOTH", Due.cloth(hall, 4), 2, 4, 6, 8, 10, 12, 14, 16, 18, 20, 22, 24);
        Due.due("reset", hall.reset(), 129);
        Due.due("WIDTH is as ahead of it", hall.bandTold(0, 0), 1);
        Due.due("how often", hall.bandTold(0, 5), 0);
        Due.due("widened(0)", hall.widened(0), WeaveHall.BAD);
        Due.due("WIDENED", hall.count(3), 0);
    }

    /** x is changed once for each ACT, be it behind a WIDENING or not. */
    private static void wideningByX() {
        int x = 77;
        WeaveHall whole = stuckNet(1, 1);
        whole.run(3, 60, x);
        WeaveHall parts = stuckNet(1, 1);
        int seed = x;
        for (int done = 0; done < 60; done++) {
            parts.run(3, 1, seed);
            seed = seed * 1103515245 + 12345;
        }
        Due.due("WIDENED some", whole.count(3) > 2 ? 1 : 0, 1);
        Due.due("WIDENED alike", whole.count(3), parts.count(3));
        for (int i = 0; i < 5; i++) {
            Due.due("read alike", whole.told(i, 3), parts.told(i, 3));
            Due.due("wrote alike", whole.told(i, 4), parts.told(i, 4));
            Due.due("the most alike", whole.bandTold(i, 2), parts.bandTold(i, 2));
        }
    }

    private static void tightestIsWidened() {
        WeaveHall hall = stuckNet(3, 2);
        hall.run(0, 2000, 0);
        // 2 is less than 3: BAND 2 (4), then BAND 0 (6), then BAND 2 (8), by then the SOURCE has written all
        Due.due("0", hall.widened(0), 2);
        Due.due("1", hall.widened(1), 0);
        Due.due("2", hall.widened(2), 2);
        Due.due("WIDTH 2", hall.bandTold(2, 0), 16);
        hall = stuckNet(2, 3);
        hall.run(0, 2000, 0);
        Due.due("0", hall.widened(0), 0);
        Due.due("1", hall.widened(1), 2);
        Due.due("2", hall.widened(2), 0);
    }

    /** Two SOURCES at a SELECT that WAITS for itself; SOURCE 0 writes to BAND 1, SOURCE 1 to BAND 0. */
    private static void widenedInTurn(int width0, int width1, int... order) {
        WeaveHall hall = new WeaveHall();
        Due.source(hall, 1, 2, 3, 4, 5, 6, 7, 8, 9);
        Due.source(hall, 1, 2, 3, 4, 5, 6, 7, 8, 9);
        hall.weaver(7, 0);
        hall.band(1, 0, 2, 1, width0);
        hall.band(0, 0, 2, 2, width1);
        hall.band(2, 0, 2, 0, 1);
        for (int way = 0; way < 4; way++) {
            Due.due("WAYS: run", hall.run(way, 2000, 1), 0);
            Due.due("WAYS: WIDENED", hall.count(3), order.length);
            for (int i = 0; i < order.length; i++) {
                Due.due(width0 + ", " + width1 + ": widened(" + i + ")", hall.widened(i), order[i]);
            }
            Due.due("SELECT WAITS", hall.told(2, 1), 1);
            hall.reset();
        }
    }

    private static void leastWidthThenLeastNumber() {
        widenedInTurn(2, 2, 0, 1, 0, 1, 0, 1);
        widenedInTurn(3, 2, 1, 0, 1, 0, 1);
        widenedInTurn(2, 3, 0, 1, 0, 1, 0);
        widenedInTurn(9, 8, 1);
        widenedInTurn(8, 9, 0);
        widenedInTurn(9, 9);
    }

    /** A ring in which each PATTERN becomes two: it fills to 1000 and 1000. */
    private static void widensToThousand() {
        WeaveHall hall = new WeaveHall();
        hall.weaver(3, 5);
        hall.weaver(2, 2);
        hall.band(0, 0, 1, 0, 50);
        hall.band(1, 0, 0, 0, 50);
        int answer = 1;
        int calls = 0;
        while (answer == 1 && calls < 30) {
            answer = hall.run(0, 2000, 0);
            calls++;
        }
        Due.due("STICKS", answer, 2);
        Due.due("again", hall.run(3, 1, 9), 2);
        Due.due("WIDTH", hall.bandTold(0, 0), 1000);
        Due.due("WIDTH", hall.bandTold(1, 0), 1000);
        // 50, 100, 200, 400, 800, 1000
        Due.due("how often", hall.bandTold(0, 5), 5);
        Due.due("how often", hall.bandTold(1, 5), 5);
        Due.due("on it", hall.bandTold(0, 1), 1000);
        Due.due("the most", hall.bandTold(0, 2), 1000);
        Due.due("on it", hall.bandTold(1, 1), 1000);
        Due.due("WAITS to write", hall.told(0, 1), 2);
        Due.due("WAITS to write", hall.told(1, 1), 2);
        Due.due("history(0, 299)", hall.history(0, 299), 5);
        Due.due("history(0, 300)", hall.history(0, 300), 0);
        Due.due("many written", hall.bandTold(0, 3) > 1000 ? 1 : 0, 1);
        int acts = hall.count(2);
        Due.due("ACTS stay", hall.run(0, 2000, 0), 2);
        Due.due("ACTS stay", hall.count(2), acts);
        hall.reset();
        Due.due("STICKS ahead of ACTS done", exactly(hall, acts), 2);
        hall.reset();
        Due.due("one fewer", exactly(hall, acts - 1), 1);
        Due.due("reset", hall.reset(), acts - 1);
        Due.due("WIDTH behind it", hall.bandTold(1, 0), 50);
    }

    private static int exactly(WeaveHall hall, int acts) {
        int answer = 1;
        int left = acts;
        while (left > 0) {
            int now = Math.min(left, 2000);
            answer = hall.run(0, now, 0);
            left -= now;
        }
        return answer;
    }

    /** Twenty rings that are WIDENED more than 100 times together. */
    private static void keptWidenings() {
        WeaveHall hall = new WeaveHall();
        int bands = 0;
        for (int i = 0; i < 20; i++) {
            hall.weaver(3, 1);
            hall.weaver(2, 20);
            hall.band(2 * i, 0, 2 * i + 1, 0, 50);
            hall.band(2 * i + 1, 0, 2 * i, 0, 1 + i);
            bands += 2;
        }
        for (int i = 0; i < 20; i++) {
            hall.run(0, 2000, 0);
        }
        Due.due("BANDS", bands, 40);
        int all = hall.count(3);
        Due.due("more than 100", all > 100 ? 1 : 0, 1);
        Due.due("widened(0)", hall.widened(0), 1);
        Due.due("widened(99)", hall.widened(99) >= 0 ? 1 : 0, 1);
        Due.due("widened(100)", hall.widened(100), WeaveHall.BAD);
        int sum = 0;
        for (int i = 0; i < bands; i++) {
            sum += hall.bandTold(i, 5);
        }
        Due.due("all WIDENINGS", sum, all);
    }

    private static void fullOfActs() {
        WeaveHall hall = new WeaveHall();
        hall.weaver(3, 1);
        hall.band(0, 0, 0, 0, 1);
        Due.due("1", hall.run(0, 1999, 0), 1);
        for (int i = 0; i < 19; i++) {
            Due.due("2000 more", hall.run(i % 4, 2000, i), 1);
        }
        Due.due("39999 ACTS", hall.count(2), 39999);
        Due.due("beyond 40000", hall.run(0, 2000, 0), 1);
        Due.due("41999 ACTS", hall.count(2), 41999);
        Due.due("FULL", hall.run(0, 1, 0), WeaveHall.FULL);
        Due.due("BAD ahead of FULL", hall.run(0, 0, 0), WeaveHall.BAD);
        Due.due("still", hall.count(2), 41999);
        Due.due("reset", hall.reset(), 41999);
        for (int i = 0; i < 20; i++) {
            Due.due("2000 more", hall.run(0, 2000, 0), 1);
        }
        Due.due("FULL at 40000", hall.run(0, 1, 0), WeaveHall.FULL);
        Due.due("reset", hall.reset(), 40000);
        Due.due("anew", hall.run(0, 1, 0), 1);
        Due.due("reset", hall.reset(), 1);
    }

    private static void resets() {
        WeaveHall hall = chain(1);
        for (int round = 0; round < 3; round++) {
            Due.due("NOT", hall.reset(), WeaveHall.NOT);
            hall.run(round, 9, 0);
            Due.due("ACTS", hall.reset(), 9);
            Due.due("count(2)", hall.count(2), 0);
            Due.due("count(5)", hall.count(5), 0);
            doneBy("nothing", hall, 0, 0, 0, 0, 0, 0);
            for (int i = 0; i < 3; i++) {
                Due.due("can go on", hall.told(i, 1), 0);
                Due.due("no PORT", hall.told(i, 2), WeaveHall.NONE);
            }
            for (int i = 0; i < 2; i++) {
                Due.due("on it", hall.bandTold(i, 1), 0);
                Due.due("the most", hall.bandTold(i, 2), 0);
                Due.due("written", hall.bandTold(i, 3), 0);
                Due.due("not ENDED", hall.bandTold(i, 4), 0);
                Due.due("DIGEST", hall.digest(i), 7);
                Due.due("HISTORY", hall.history(i, 0), 0);
            }
            Due.due("CLOTH", hall.told(0, 5), 0);
            Due.due("woven", hall.woven(0, 0), 0);
            Due.due("FEED", hall.told(2, 5), 3);
        }
        Due.due("all", hall.run(0, 2000, 0), 0);
        Due.dueAll("CLOTH", Due.cloth(hall, 0), 11, 12, 13);
        Due.due("ENDED", hall.bandTold(0, 4), 1);
        Due.due("reset", hall.reset(), 17);
        Due.due("not ENDED", hall.bandTold(0, 4), 0);
        Due.due("empty hall", emptyHall(), 0);
    }

    private static int emptyHall() {
        WeaveHall hall = new WeaveHall();
        int sum = 0;
        for (int way = 0; way < 4; way++) {
            sum += hall.run(way, 2000, way);
            sum += hall.count(5) - 1;
        }
        return sum + hall.reset();
    }
}
