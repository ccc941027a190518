import java.util.Arrays;

/** What each KIND does (Terms 1 and 2), seen by CLOTHS, HISTORIES, states and the number of ACTS. */
public final class KindsTest {
    public static void main(String[] args) {
        oneInOneOut();
        merge();
        split();
        sumAndSelect();
        copy();
        sort();
        holdNothingBehindReset();
        tear();
        failures();
        writingToWhoIsOver();
        acts();
        sumsGoRound();
        Due.end();
    }

    /** The CLOTH behind one WEAVER with one PORT in and one out. */
    private static void through(String name, int kind, int a, long[] feed, long... want) {
        for (int way = 0; way < 4; way++) {
            WeaveHall hall = new WeaveHall();
            int source = Due.source(hall, feed);
            int middle = hall.weaver(kind, a);
            int collect = Due.collect(hall);
            hall.band(source, 0, middle, 0, 1 + way);
            hall.band(middle, 0, collect, 0, 2);
            Due.due(name + " run", hall.run(way, 2000, 7), 0);
            Due.dueAll(name, Due.cloth(hall, collect), want);
            Due.dueAll(name + " HISTORY", Due.past(hall, 1), want);
            Due.due(name + " ENDED", hall.told(middle, 1), kind == 12 && feed.length >= a ? 4 : 3);
        }
    }

    private static void oneInOneOut() {
        long[] feed = {5, -3, 0};
        through("SHIFT", 1, 10, feed, 15, 7, 10);
        through("SHIFT down", 1, -10, feed, -5, -13, -10);
        through("REPEAT 0", 2, 0, feed);
        through("REPEAT 1", 2, 1, feed, 5, -3, 0);
        through("REPEAT 3", 2, 3, feed, 5, 5, 5, -3, -3, -3, 0, 0, 0);
        through("DELAY", 3, -7, feed, -7, 5, -3, 0);
        through("DELAY of nothing", 3, 4, new long[0], 4);
        through("COUNT", 10, 9, feed, 1, 2, 3);
        through("nothing", 1, 9, new long[0]);
    }

    private static void merge() {
        merged(new long[] {1, 4, 4, 9}, new long[] {2, 4, 5}, 1, 2, 4, 4, 4, 5, 9);
        merged(new long[] {3, 1, 2}, new long[] {5, 0}, 3, 1, 2, 5, 0);
        merged(new long[0], new long[] {8, 7}, 8, 7);
        merged(new long[] {8, 7}, new long[0], 8, 7);
        merged(new long[0], new long[0]);
        merged(new long[] {Long.MIN_VALUE}, new long[] {Long.MAX_VALUE}, Long.MIN_VALUE, Long.MAX_VALUE);

        // of like ones that of PORT 0: it is PORT 0 that it reads next
        merged(new long[] {6, 1}, new long[] {6, 9}, 6, 1, 6, 9);
    }

    private static void merged(long[] one, long[] other, long... want) {
        for (int way = 0; way < 4; way++) {
            WeaveHall hall = new WeaveHall();
            Due.source(hall, one);
            Due.source(hall, other);
            hall.weaver(4, 0);
            Due.collect(hall);
            hall.band(0, 0, 2, 0, 1);
            hall.band(1, 0, 2, 1, 2);
            hall.band(2, 0, 3, 0, 1);
            Due.due("MERGE run", hall.run(way, 2000, way), 0);
            Due.dueAll("MERGE", Due.cloth(hall, 3), want);
            Due.due("MERGE ENDED", hall.told(2, 1), 3);
            // reads, two times that it ENDED, writes, END; and the others' ACTS
            int n = one.length + other.length;
            Due.due("MERGE ACTS", hall.count(2), (n + 2) + (n + 2 + n + 1) + (n + 2));
        }
    }

    private static void split() {
        WeaveHall hall = new WeaveHall();
        Due.source(hall, 0, 3, -6, 7, -7, Long.MIN_VALUE, 9);
        hall.weaver(5, 3);
        Due.collect(hall);
        Due.collect(hall);
        hall.band(0, 0, 1, 0, 1);
        hall.band(1, 0, 2, 0, 1);
        hall.band(1, 1, 3, 0, 1);
        Due.due("SPLIT run", hall.run(0, 2000, 0), 0);
        Due.dueAll("SPLIT 0", Due.cloth(hall, 2), 0, 3, -6, 9);
        Due.dueAll("SPLIT 1", Due.cloth(hall, 3), 7, -7, Long.MIN_VALUE);
    }

    private static void sumAndSelect() {
        WeaveHall hall = new WeaveHall();
        Due.source(hall, 1, 2, 3);
        Due.source(hall, 10, 20);
        hall.weaver(6, 0);
        Due.collect(hall);
        hall.band(0, 0, 2, 0, 1);
        hall.band(1, 0, 2, 1, 1);
        hall.band(2, 0, 3, 0, 1);
        Due.due("SUM run", hall.run(0, 2000, 0), 0);
        Due.dueAll("SUM", Due.cloth(hall, 3), 11, 22);
        Due.due("SUM read PORT 0 first", hall.told(2, 3), 5);

        hall.clear();
        Due.source(hall, 0, 1, 0, -1, 0);
        Due.source(hall, 10, 20);
        Due.source(hall, 5, 6, 7);
        hall.weaver(7, 0);
        Due.collect(hall);
        hall.band(0, 0, 3, 0, 1);
        hall.band(1, 0, 3, 1, 1);
        hall.band(2, 0, 3, 2, 1);
        hall.band(3, 0, 4, 0, 1);
        Due.due("SELECT run", hall.run(1, 2000, 0), 0);
        Due.dueAll("SELECT", Due.cloth(hall, 4), 10, 5, 20, 6);
        Due.due("SELECT read", hall.told(3, 3), 9);
        Due.due("SELECT ENDED", hall.told(3, 1), 3);
    }

    private static void copy() {
        WeaveHall hall = new WeaveHall();
        Due.source(hall, 4, 5);
        hall.weaver(8, 0);
        Due.collect(hall);
        Due.collect(hall);
        hall.band(0, 0, 1, 0, 1);
        hall.band(1, 0, 2, 0, 1);
        hall.band(1, 1, 3, 0, 1);
        hall.run(0, 5, 0);
        Due.due("COPY writes PORT 0 first", hall.bandTold(1, 3), 1);
        Due.due("COPY not yet PORT 1", hall.bandTold(2, 3), 0);
        Due.due("COPY run", hall.run(0, 2000, 0), 0);
        Due.dueAll("COPY 0", Due.cloth(hall, 2), 4, 5);
        Due.dueAll("COPY 1", Due.cloth(hall, 3), 4, 5);
    }

    private static void sort() {
        long[] feed = {5, -3, 5, 0, 9, -3, 1};
        through("SORT 1", 11, 1, feed, feed);
        through("SORT 3", 11, 3, feed, -3, 5, 5, -3, 0, 9, 1);
        through("SORT 7", 11, 7, feed, -3, -3, 0, 1, 5, 5, 9);
        through("SORT 30", 11, 30, feed, -3, -3, 0, 1, 5, 5, 9);
        through("SORT of nothing", 11, 30, new long[0]);
        long[] many = new long[64];
        long[] want = new long[64];
        for (int i = 0; i < 64; i++) {
            many[i] = -i;
            want[i] = i < 30 ? i - 29 : i < 60 ? i - 89 : i - 123;
        }
        through("SORT 30 of 64", 11, 30, many, want);

        // it reads only once that the BAND ENDED, be something left to write or not
        for (int length = 0; length < 5; length++) {
            WeaveHall hall = new WeaveHall();
            Due.source(hall, Arrays.copyOf(feed, length));
            hall.weaver(11, 2);
            Due.collect(hall);
            hall.band(0, 0, 1, 0, 9);
            hall.band(1, 0, 2, 0, 9);
            Due.due("SORT run", hall.run(0, 2000, 0), 0);
            Due.due("SORT ACTS", hall.count(2), (length + 1) + (2 * length + 2) + (length + 2));
        }
    }

    /** Behind reset() nobody holds what it held, or knows that a BAND ENDED. */
    private static void holdNothingBehindReset() {
        for (int which = 0; which < 4; which++) {
            boolean sorts = which > 1;
            WeaveHall hall = new WeaveHall();
            Due.source(hall, 7, 8, 9);
            Due.source(hall, 3, 2, 1, 0);
            hall.weaver(4, 0);
            hall.weaver(sorts ? 11 : 1, sorts ? 5 : 0);
            Due.collect(hall);
            hall.band(0, 0, 2, which % 2, 1);
            hall.band(1, 0, 2, 1 - which % 2, 1);
            hall.band(2, 0, 3, 0, 1);
            hall.band(3, 0, 4, 0, 1);
            for (int acts = 1; acts < 50; acts++) {
                hall.run(acts % 4, acts, acts);
                hall.reset();
                Due.due("run", hall.run(0, 2000, 0), 0);
                if (sorts) {
                    Due.dueAll("MERGE, SORT", Due.cloth(hall, 4), 0, 1, 2, 3, 7, 8, 9);
                } else {
                    Due.dueAll("MERGE", Due.cloth(hall, 4), 3, 2, 1, 0, 7, 8, 9);
                }
                hall.reset();
            }
        }
    }

    private static void tear() {
        long[] feed = {5, 6, 7};
        through("TEAR 0", 12, 0, feed);
        through("TEAR 2", 12, 2, feed, 5, 6);
        through("TEAR 3", 12, 3, feed, 5, 6, 7);
        through("TEAR 4", 12, 4, feed, 5, 6, 7);

        // it does not WAIT where nothing comes
        WeaveHall hall = new WeaveHall();
        hall.weaver(12, 1);
        hall.weaver(3, 8);
        hall.band(0, 0, 1, 0, 1);
        hall.band(1, 0, 0, 0, 1);
        Due.due("TEAR in a ring", hall.run(0, 2000, 0), 0);
        Due.due("TEAR FAILED", hall.told(0, 1), 4);
        Due.due("DELAY reads the PATTERN, then that it FAILED", hall.told(1, 1), 4);
        Due.due("DELAY wrote", hall.told(1, 4), 2);
        Due.due("why", hall.failure(1, 1), 1);
        Due.due("where", hall.failure(1, 0), 0);
    }

    /** A FAILURE goes along the BANDS, behind all that is on them, through KINDS that hold something. */
    private static void failures() {
        for (int way = 0; way < 4; way++) {
            WeaveHall hall = new WeaveHall();
            Due.source(hall, 9, 8, 7, 6, 5);
            hall.weaver(12, 3);
            hall.weaver(11, 2);
            Due.source(hall, 1, 2, 3);
            hall.weaver(4, 0);
            Due.collect(hall);
            hall.band(0, 0, 1, 0, 3);
            hall.band(1, 0, 2, 0, 3);
            hall.band(2, 0, 4, 1, 3);
            hall.band(3, 0, 4, 0, 3);
            hall.band(4, 0, 5, 0, 3);
            Due.due("run", hall.run(way, 2000, 3), 0);
            // SORT gives 8, 9, then holds 7 as the FAILURE comes; MERGE has given 1, 2, 3, 8, 9
            Due.dueAll("SORT", Due.past(hall, 2), 8, 9);
            Due.dueAll("MERGE", Due.past(hall, 4), 1, 2, 3, 8, 9);
            Due.dueAll("COLLECT", Due.cloth(hall, 5), 1, 2, 3, 8, 9);
            for (int weaver : new int[] {1, 2, 4, 5}) {
                Due.due("FAILED " + weaver, hall.told(weaver, 1), 4);
                Due.due("where", hall.failure(weaver, 0), 1);
                Due.due("why", hall.failure(weaver, 1), 1);
            }
            Due.due("SOURCE 3 did not", hall.failure(3, 0), WeaveHall.BAD);
            Due.due("BAND 0", hall.bandTold(0, 4), 1);
            Due.due("BAND 1", hall.bandTold(1, 4), 2);
            Due.due("BAND 3", hall.bandTold(3, 4), 1);
            Due.due("BAND 4", hall.bandTold(4, 4), 2);
        }
    }

    /** What is written to a BAND whose reader is over is in its HISTORY, but not on it; nobody WAITS there. */
    private static void writingToWhoIsOver() {
        WeaveHall hall = new WeaveHall();
        Due.source(hall, 1, 2, 3, 4, 5, 6, 7);
        hall.weaver(12, 1);
        Due.collect(hall);
        hall.band(0, 0, 1, 0, 2);
        hall.band(1, 0, 2, 0, 1);
        Due.due("run", hall.run(0, 2000, 0), 0);
        Due.dueAll("HISTORY", Due.past(hall, 0), 1, 2, 3, 4, 5, 6, 7);
        Due.due("on it", hall.bandTold(0, 1), 2);
        Due.due("the most", hall.bandTold(0, 2), 2);
        Due.due("WIDENED", hall.count(3), 0);
        Due.due("SOURCE wrote", hall.told(0, 4), 7);
        Due.due("SOURCE ENDED", hall.told(0, 1), 3);
        hall.clear();
        // a reader that ENDED: a SCRIPT without STEPS
        Due.source(hall, 1, 2, 3);
        Due.source(hall);
        hall.weaver(13, 0);
        Due.collect(hall);
        Due.collect(hall);
        hall.band(0, 0, 2, 0, 1);
        hall.band(1, 0, 2, 1, 1);
        hall.band(2, 0, 3, 0, 1);
        hall.band(2, 1, 4, 0, 1);
        Due.due("run", hall.run(1, 2000, 0), 0);
        Due.due("on it", hall.bandTold(0, 1), 0);
        Due.due("the most", hall.bandTold(0, 2), 0);
        Due.due("written", hall.bandTold(0, 3), 3);
        Due.due("ACTS", hall.count(2), 4 + 1 + 1 + 2 + 2);
    }

    /** To read that a BAND ENDED is an ACT, what is done by it the next; a FAILURE is read and done in one. */
    private static void acts() {
        WeaveHall hall = new WeaveHall();
        Due.source(hall);
        Due.collect(hall);
        hall.band(0, 0, 1, 0, 1);
        Due.due("SOURCE ENDS", hall.run(0, 1, 0), 1);
        Due.due("COLLECT can go on", hall.told(1, 1), 0);
        Due.due("reads that", hall.run(0, 1, 0), 1);
        Due.due("COLLECT can go on", hall.told(1, 1), 0);
        Due.due("ENDS", hall.run(0, 1, 0), 0);
        Due.due("COLLECT ENDED", hall.told(1, 1), 3);
        Due.due("read nothing", hall.told(1, 3), 0);
        hall.clear();
        Due.source(hall);
        hall.weaver(12, 0);
        Due.collect(hall);
        hall.band(0, 0, 1, 0, 1);
        hall.band(1, 0, 2, 0, 1);
        Due.due("all", hall.run(1, 3, 0), 0);
        Due.due("COLLECT FAILED", hall.told(2, 1), 4);
        Due.due("ACTS", hall.count(2), 3);
    }

    private static void sumsGoRound() {
        through("SHIFT round", 1, 1, new long[] {Long.MAX_VALUE}, Long.MIN_VALUE);
        through("SHIFT by the least", 1, Integer.MIN_VALUE, new long[] {0}, Integer.MIN_VALUE);
        WeaveHall hall = new WeaveHall();
        Due.source(hall, Long.MAX_VALUE);
        Due.source(hall, Long.MAX_VALUE);
        hall.weaver(6, 0);
        Due.collect(hall);
        hall.band(0, 0, 2, 0, 1);
        hall.band(1, 0, 2, 1, 1);
        hall.band(2, 0, 3, 0, 1);
        hall.run(2, 2000, 0);
        Due.dueAll("SUM round", Due.cloth(hall, 3), -2);
    }
}
