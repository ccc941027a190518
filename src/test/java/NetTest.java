/** Promises 1 to 7: a new object, weaver, feed, step, band, width, clear. */
public final class NetTest {
    private static final int[] INS = {0, 1, 1, 1, 2, 1, 2, 3, 1, 1, 1, 1, 1, 2};
    private static final int[] OUTS = {1, 1, 1, 1, 1, 2, 1, 1, 2, 0, 1, 1, 1, 2};

    public static void main(String[] args) {
        newObject();
        weavers();
        feeds();
        steps();
        ports();
        bands();
        fullOfBands();
        widths();
        clears();
        duringRun();
        Due.end();
    }

    private static void newObject() {
        WeaveHall hall = new WeaveHall();
        Due.due("new count(0)", hall.count(0), 0);
        Due.due("new count(1)", hall.count(1), 0);
        Due.due("new count(2)", hall.count(2), 0);
        Due.due("new count(3)", hall.count(3), 0);
        Due.due("new count(4)", hall.count(4), 1);
        Due.due("new count(5)", hall.count(5), 0);
        Due.due("new count(6)", hall.count(6), 0);
        Due.due("new told(0, 0)", hall.told(0, 0), WeaveHall.BAD);
        Due.due("new bandTold(0, 0)", hall.bandTold(0, 0), WeaveHall.BAD);
    }

    private static void weavers() {
        WeaveHall hall = new WeaveHall();
        int[][] bad = {{-1, 0}, {14, 0}, {Integer.MIN_VALUE, 0}, {Integer.MAX_VALUE, 0}, {2, -1}, {2, 21},
            {5, 0}, {5, 1001}, {5, -2}, {11, 0}, {11, 31}, {11, Integer.MIN_VALUE}, {12, -1}, {12, 1001}};
        for (int[] one : bad) {
            Due.due("weaver(" + one[0] + ", " + one[1] + ")", hall.weaver(one[0], one[1]), WeaveHall.BAD);
        }
        Due.due("count(0) behind refusals", hall.count(0), 0);
        int[][] good = {{0, -5}, {1, Integer.MIN_VALUE}, {1, Integer.MAX_VALUE}, {2, 0}, {2, 20}, {3, -9}, {4, -1},
            {5, 1}, {5, 1000}, {6, -1}, {7, 77}, {8, -1}, {9, -1}, {10, -1}, {11, 1}, {11, 30}, {12, 0}, {12, 1000},
            {13, -1}};
        for (int i = 0; i < good.length; i++) {
            Due.due("weaver(" + good[i][0] + ", " + good[i][1] + ")", hall.weaver(good[i][0], good[i][1]), i);
            Due.due("its KIND", hall.told(i, 0), good[i][0]);
        }
        for (int i = good.length; i < 40; i++) {
            Due.due("weaver(9, 0)", hall.weaver(9, 0), i);
        }
        Due.due("weaver(9, 0), the 41st", hall.weaver(9, 0), WeaveHall.FULL);
        Due.due("BAD ahead of FULL", hall.weaver(14, 0), WeaveHall.BAD);
        Due.due("count(0)", hall.count(0), 40);
    }

    private static void feeds() {
        WeaveHall hall = new WeaveHall();
        Due.due("feed of none", hall.feed(0, 1), WeaveHall.BAD);
        hall.weaver(9, 0);
        hall.weaver(0, 0);
        Due.due("feed(-1, 1)", hall.feed(-1, 1), WeaveHall.BAD);
        Due.due("feed(2, 1)", hall.feed(2, 1), WeaveHall.BAD);
        Due.due("feed of no SOURCE", hall.feed(0, 1), WeaveHall.BAD);
        for (int i = 1; i <= 200; i++) {
            Due.due("feed " + i, hall.feed(1, Long.MIN_VALUE + i), i);
        }
        Due.due("feed 201", hall.feed(1, 0), WeaveHall.FULL);
        Due.due("told(1, 5)", hall.told(1, 5), 200);
        hall.band(1, 0, 0, 0, 50);
        Due.due("run", hall.run(2, 2000, 0), 0);
        Due.due("woven(0, 0)", hall.woven(0, 0), Long.MIN_VALUE + 1);
        Due.due("woven(0, 199)", hall.woven(0, 199), Long.MIN_VALUE + 200);
        Due.due("woven(0, 200)", hall.woven(0, 200), 0);
    }

    private static void steps() {
        WeaveHall hall = new WeaveHall();
        hall.weaver(13, 0);
        hall.weaver(0, 0);
        Due.due("step of a SOURCE", hall.step(1, 7, 0, 0), WeaveHall.BAD);
        Due.due("step of none", hall.step(2, 7, 0, 0), WeaveHall.BAD);
        Due.due("step of -1", hall.step(-1, 7, 0, 0), WeaveHall.BAD);
        int[][] bad = {{-1, 0, 0}, {8, 0, 0}, {0, -1, 0}, {0, 2, 0}, {0, 0, -1}, {0, 0, 4}, {1, 2, 0}, {1, -1, 0},
            {1, 1, 4}, {1, 1, -1}, {2, 4, 0}, {2, -1, 0}, {3, 4, 0}, {3, -1, 0}, {3, 0, 4}, {3, 0, -1}, {4, 4, 0},
            {4, 0, 4}, {4, 0, -1}, {4, -1, 0}, {5, 12, 0}, {5, -1, 0}, {5, 0, 4}, {5, 0, -1}, {6, 2, 0}, {6, -1, 0},
            {6, 0, 4}, {6, 0, -1}};
        for (int[] s : bad) {
            Due.due("step " + s[0] + " " + s[1] + " " + s[2], hall.step(0, s[0], s[1], s[2]), WeaveHall.BAD);
        }
        Due.due("told(0, 5)", hall.told(0, 5), 0);
        int[][] good = {{0, 1, 3}, {1, 1, 3}, {2, 3, Integer.MIN_VALUE}, {2, 0, Integer.MAX_VALUE}, {3, 3, 3},
            {4, 3, 3}, {5, 11, 3}, {5, 0, 0}, {6, 1, 3}, {7, -1, Integer.MAX_VALUE}, {0, 0, 0}, {6, 0, 0}};
        for (int i = 0; i < good.length; i++) {
            Due.due("step " + i, hall.step(0, good[i][0], good[i][1], good[i][2]), i + 1);
        }
        Due.due("step 13", hall.step(0, 7, 0, 0), WeaveHall.FULL);
        Due.due("BAD ahead of FULL", hall.step(0, 8, 0, 0), WeaveHall.BAD);
        Due.due("told(0, 5) of 12", hall.told(0, 5), 12);
    }

    /** Each KIND has just its PORTS. */
    private static void ports() {
        for (int kind = 0; kind < 14; kind++) {
            WeaveHall hall = new WeaveHall();
            hall.weaver(kind, 1);
            for (int i = 0; i < 4; i++) {
                int writer = Due.source(hall);
                int reader = Due.collect(hall);
                boolean in = hall.band(writer, 0, 0, i, 1) >= 0;
                boolean out = hall.band(0, i, reader, 0, 1) >= 0;
                Due.due("KIND " + kind + " PORT in " + i, in ? 1 : 0, i < INS[kind] ? 1 : 0);
                Due.due("KIND " + kind + " PORT out " + i, out ? 1 : 0, i < OUTS[kind] ? 1 : 0);
            }
        }
    }

    private static void bands() {
        WeaveHall hall = new WeaveHall();
        int source = Due.source(hall, 1);
        int copy = hall.weaver(8, 0);
        int sum = hall.weaver(6, 0);
        int[][] bad = {{-1, 0, copy, 0, 1}, {3, 0, copy, 0, 1}, {source, 0, -1, 0, 1}, {source, 0, 3, 0, 1},
            {source, -1, copy, 0, 1}, {source, 1, copy, 0, 1}, {source, 0, copy, -1, 1}, {source, 0, copy, 1, 1},
            {source, 0, copy, 0, 0}, {source, 0, copy, 0, 51}, {source, 0, copy, 0, -1}, {copy, 2, sum, 0, 1},
            {copy, 0, sum, 2, 1}, {copy, 0, source, 0, 1}};
        for (int[] b : bad) {
            Due.due("band " + b[0] + " " + b[1] + " " + b[2] + " " + b[3] + " " + b[4],
                hall.band(b[0], b[1], b[2], b[3], b[4]), WeaveHall.BAD);
        }
        Due.due("count(1)", hall.count(1), 0);
        Due.due("band 0", hall.band(source, 0, copy, 0, 50), 0);
        Due.due("out is joined", hall.band(source, 0, sum, 0, 1), WeaveHall.NOT);
        Due.due("in is joined", hall.band(sum, 0, copy, 0, 1), WeaveHall.NOT);
        Due.due("BAD ahead of NOT", hall.band(source, 0, copy, 0, 51), WeaveHall.BAD);
        Due.due("band 1", hall.band(copy, 1, sum, 0, 1), 1);
        Due.due("to itself", hall.band(sum, 0, sum, 1, 2), 2);
        Due.due("count(1)", hall.count(1), 3);
        Due.due("count(4)", hall.count(4), 0);
        Due.due("from", hall.bandTold(1, 6), copy);
        Due.due("to", hall.bandTold(1, 7), sum);
        Due.due("width", hall.bandTold(0, 0), 50);
        Due.due("BAND to itself: from", hall.bandTold(2, 6), sum);
        Due.due("BAND to itself: to", hall.bandTold(2, 7), sum);
    }

    private static void fullOfBands() {
        WeaveHall hall = new WeaveHall();
        for (int i = 0; i < 40; i++) {
            hall.weaver(13, 0);
        }
        for (int i = 0; i < 60; i++) {
            Due.due("band " + i, hall.band(i / 2, i % 2, (i / 2 + 1) % 40, i % 2, 1), i);
        }
        Due.due("band 60", hall.band(30, 0, 31, 0, 1), WeaveHall.FULL);
        Due.due("NOT ahead of FULL", hall.band(0, 0, 31, 0, 1), WeaveHall.NOT);
        Due.due("BAD ahead of NOT", hall.band(0, 2, 31, 0, 1), WeaveHall.BAD);
        Due.due("count(1)", hall.count(1), 60);
    }

    private static void widths() {
        WeaveHall hall = new WeaveHall();
        int source = Due.source(hall, 1, 2, 3);
        int shift = hall.weaver(1, 0);
        hall.band(source, 0, shift, 0, 7);
        Due.due("width(-1, 1)", hall.width(-1, 1), WeaveHall.BAD);
        Due.due("width(1, 1)", hall.width(1, 1), WeaveHall.BAD);
        Due.due("width(0, 0)", hall.width(0, 0), WeaveHall.BAD);
        Due.due("width(0, 51)", hall.width(0, 51), WeaveHall.BAD);
        Due.due("unchanged", hall.bandTold(0, 0), 7);
        Due.due("width(0, 50)", hall.width(0, 50), 7);
        Due.due("width(0, 1)", hall.width(0, 1), 50);
        Due.due("width(0, 2)", hall.width(0, 2), 1);
        Due.due("now", hall.bandTold(0, 0), 2);
    }

    private static void clears() {
        WeaveHall hall = new WeaveHall();
        Due.due("clear of nothing", hall.clear(), 0);
        int source = Due.source(hall, 4, 5);
        int collect = Due.collect(hall);
        int script = Due.script(hall, 7, 0, 0);
        Due.due("script", script, 2);
        Due.due("clear", hall.clear(), 3);
        Due.due("count(0)", hall.count(0), 0);
        Due.due("count(4)", hall.count(4), 1);
        Due.source(hall, 4, 5);
        Due.collect(hall);
        hall.band(source, 0, collect, 0, 1);
        hall.run(0, 3, 0);
        Due.due("clear in a RUN", hall.clear(), 2);
        Due.due("count(0)", hall.count(0), 0);
        Due.due("count(1)", hall.count(1), 0);
        Due.due("count(2)", hall.count(2), 0);
        Due.due("count(3)", hall.count(3), 0);
        Due.due("count(5)", hall.count(5), 0);
        Due.due("reset", hall.reset(), WeaveHall.NOT);
        Due.due("told", hall.told(0, 0), WeaveHall.BAD);
        Due.due("bandTold", hall.bandTold(0, 3), WeaveHall.BAD);
        Due.due("digest", hall.digest(0), 0);
        Due.due("history", hall.history(0, 0), 0);
        Due.due("woven", hall.woven(1, 0), 0);
        // what comes new under an old number has nothing of the old one
        Due.due("weaver", hall.weaver(13, 0), 0);
        Due.due("weaver", hall.weaver(0, 0), 1);
        Due.due("weaver", hall.weaver(13, 0), 2);
        Due.due("no STEPS", hall.told(2, 5), 0);
        Due.due("no FEED", hall.told(1, 5), 0);
        Due.due("band", hall.band(0, 0, 0, 0, 3), 0);
        Due.due("no HISTORY", hall.bandTold(0, 3), 0);
        Due.due("DIGEST", hall.digest(0), 7);
        Due.due("PORT is free", hall.band(1, 0, 2, 0, 3), 1);
        for (int i = 0; i < 3; i++) {
            Due.due("nothing read", hall.told(i, 3), 0);
            Due.due("nothing written", hall.told(i, 4), 0);
            Due.due("not FAILED", hall.failure(i, 0), WeaveHall.BAD);
        }
        hall.clear();
        // a TEAR that FAILED, then a SHIFT in its place
        Due.source(hall, 1);
        hall.weaver(12, 1);
        Due.collect(hall);
        hall.band(0, 0, 1, 0, 1);
        hall.band(1, 0, 2, 0, 1);
        hall.run(0, 2000, 0);
        Due.due("FAILED", hall.failure(1, 0), 1);
        hall.clear();
        Due.source(hall);
        hall.weaver(1, 0);
        hall.band(0, 0, 1, 0, 1);
        hall.band(1, 0, Due.collect(hall), 0, 1);
        Due.due("not FAILED", hall.failure(1, 0), WeaveHall.BAD);
        Due.due("BAND not FAILED", hall.bandTold(1, 4), 0);
        Due.due("nothing read", hall.told(1, 3), 0);
    }

    private static void duringRun() {
        WeaveHall hall = new WeaveHall();
        int source = Due.source(hall, 1);
        int script = Due.script(hall, 0, 0, 0, 1, 0, 0);
        Due.source(hall);
        Due.collect(hall);
        Due.collect(hall);
        hall.band(source, 0, script, 0, 1);
        hall.band(2, 0, script, 1, 1);
        hall.band(script, 0, 3, 0, 1);
        hall.band(script, 1, 4, 0, 1);
        Due.due("run", hall.run(0, 1, 0), 1);
        Due.due("weaver", hall.weaver(0, 0), WeaveHall.NOT);
        Due.due("weaver, BAD first", hall.weaver(2, 21), WeaveHall.BAD);
        Due.due("feed", hall.feed(source, 0), WeaveHall.NOT);
        Due.due("feed, BAD first", hall.feed(script, 0), WeaveHall.BAD);
        Due.due("step", hall.step(script, 7, 0, 0), WeaveHall.NOT);
        Due.due("step, BAD first", hall.step(source, 7, 0, 0), WeaveHall.BAD);
        Due.due("band", hall.band(source, 0, script, 0, 1), WeaveHall.NOT);
        Due.due("band, BAD first", hall.band(source, 0, script, 0, 51), WeaveHall.BAD);
        Due.due("width", hall.width(0, 5), WeaveHall.NOT);
        Due.due("width, BAD first", hall.width(9, 5), WeaveHall.BAD);
        Due.due("unchanged: WEAVERS", hall.count(0), 5);
        Due.due("unchanged: FEED", hall.told(source, 5), 1);
        Due.due("unchanged: STEPS", hall.told(script, 5), 2);
        Due.due("unchanged: WIDTH", hall.bandTold(0, 0), 1);
        hall.reset();
        Due.due("behind reset: feed", hall.feed(source, 0), 2);
        Due.due("behind reset: step", hall.step(script, 7, 0, 0), 3);
        Due.due("behind reset: width", hall.width(0, 5), 1);
        Due.due("behind reset: weaver", hall.weaver(0, 0), 5);
    }
}
