import java.util.Arrays;

/** Nets that several tests use. */
final class Nets {
    static final int[] INS = {0, 1, 1, 1, 2, 1, 2, 3, 1, 1, 1, 1, 1, 2};
    static final int[] OUTS = {1, 1, 1, 1, 1, 2, 1, 1, 2, 0, 1, 1, 1, 2};
    /** No WEAVER, BAND, KIND, STEP, WAY, what or place bears one of these. */
    static final int[] FAR = {Integer.MIN_VALUE, Integer.MIN_VALUE + 1, -40, 1000000, Integer.MAX_VALUE};

    private Nets() {
    }

    /** WHOLE: SOURCES 0 (1, 2, 3) and 1 (4, 5), SCRIPT 2, COLLECTS 3 and 4; BANDS 0 to 3 of WIDTHS 1, 2, 3, 4. */
    static WeaveHall small() {
        WeaveHall hall = open();
        hall.band(2, 1, 4, 0, 4);
        return hall;
    }

    /** The small net without its last BAND: PORT 1 out of SCRIPT 2 and PORT 0 in of COLLECT 4 are open. */
    static WeaveHall open() {
        WeaveHall hall = new WeaveHall();
        Due.source(hall, 1, 2, 3);
        Due.source(hall, 4, 5);
        Due.script(hall, 0, 0, 0, 1, 1, 0, 6, 1, 1, 1, 0, 1);
        Due.collect(hall);
        Due.collect(hall);
        hall.band(0, 0, 2, 0, 1);
        hall.band(1, 0, 2, 1, 2);
        hall.band(2, 0, 3, 0, 3);
        return hall;
    }

    /** The small net in a RUN. */
    static WeaveHall begun() {
        WeaveHall hall = small();
        hall.run(0, 6, 0);
        return hall;
    }

    /** BANDS from each WEAVER's PORT 0 to that of the one behind it. */
    static WeaveHall inARow(WeaveHall hall, int width) {
        for (int i = 0; i + 1 < hall.count(0); i++) {
            hall.band(i, 0, i + 1, 0, width);
        }
        return hall;
    }

    /** SOURCE 0, one of a KIND 1, COLLECT 2. */
    static WeaveHall line(int kind, int a, long... feed) {
        WeaveHall hall = new WeaveHall();
        Due.source(hall, feed);
        hall.weaver(kind, a);
        Due.collect(hall);
        return inARow(hall, 50);
    }

    /** SOURCE 0 to COLLECT 1. */
    static WeaveHall pair(int width, long... feed) {
        WeaveHall hall = new WeaveHall();
        Due.source(hall, feed);
        Due.collect(hall);
        return inARow(hall, width);
    }

    /** SCRIPT 2 between SOURCES 0 and 1 (which has nothing) and COLLECTS 3 and 4. */
    static WeaveHall scripted(long[] feed, int... steps) {
        WeaveHall hall = new WeaveHall();
        Due.source(hall, feed);
        Due.source(hall);
        Due.script(hall, steps);
        hall.band(0, 0, 2, 0, 1);
        hall.band(1, 0, 2, 1, 1);
        hall.band(2, 0, Due.collect(hall), 0, 1);
        hall.band(2, 1, Due.collect(hall), 0, 1);
        return hall;
    }

    /** Twenty rings in which each PATTERN becomes twenty: 40 BANDS of WIDTH 1. */
    static WeaveHall rings() {
        WeaveHall hall = new WeaveHall();
        for (int i = 0; i < 20; i++) {
            int delay = hall.weaver(3, 1);
            int repeat = hall.weaver(2, 20);
            hall.band(delay, 0, repeat, 0, 1);
            hall.band(repeat, 0, delay, 0, 1);
        }
        return hall;
    }

    /** WEAVER 0 of a KIND (a 1), then SOURCES and COLLECTS at all its PORTS: BANDS in order of the PORTS, in first. */
    static WeaveHall around(int kind) {
        WeaveHall hall = new WeaveHall();
        hall.weaver(kind, 1);
        for (int port = 0; port < INS[kind]; port++) {
            hall.band(Due.source(hall), 0, 0, port, 1);
        }
        for (int port = 0; port < OUTS[kind]; port++) {
            hall.band(0, port, Due.collect(hall), 0, 1);
        }
        return hall;
    }

    /** One WEAVER of a KIND alone, with an a that suits every KIND. */
    static WeaveHall alone(int kind) {
        WeaveHall hall = new WeaveHall();
        hall.weaver(kind, 1);
        return hall;
    }

    /** 40 WEAVERS, WHOLE: SOURCES 0 to 19, each with a BAND to one of COLLECTS 20 to 39. */
    static WeaveHall fullOfWeavers() {
        WeaveHall hall = new WeaveHall();
        for (int i = 0; i < 20; i++) {
            Due.source(hall, i);
        }
        for (int i = 0; i < 20; i++) {
            hall.band(i, 0, Due.collect(hall), 0, 1);
        }
        return hall;
    }

    /** SCRIPTS 0 to 39 and so many BANDS from each one's PORTS out to those in of the one behind it. */
    static WeaveHall scripts(int bands) {
        WeaveHall hall = new WeaveHall();
        for (int i = 0; i < 40; i++) {
            hall.weaver(13, 0);
        }
        for (int i = 0; i < bands; i++) {
            hall.band(i / 2, i % 2, i / 2 + 1, i % 2, 1 + i % 50);
        }
        return hall;
    }

    /** A DELAY whose BAND leads to itself: it never ends. */
    static WeaveHall endless() {
        WeaveHall hall = new WeaveHall();
        hall.weaver(3, 1);
        hall.band(0, 0, 0, 0, 1);
        return hall;
    }

    /** DELAY 0, REPEAT 1 that doubles, in a ring: each BAND fills to 1000, then it STICKS. */
    static WeaveHall doubling(int width) {
        WeaveHall hall = new WeaveHall();
        hall.weaver(3, 5);
        hall.weaver(2, 2);
        hall.band(0, 0, 1, 0, width);
        hall.band(1, 0, 0, 0, width);
        return hall;
    }

    /** Runs by a WAY until it does not answer 1 any more, or is refused: what it answered. */
    static int toTheEnd(WeaveHall hall, int way) {
        int answer = 1;
        for (int calls = 0; calls < 25 && answer == 1; calls++) {
            answer = hall.run(way, 2000, calls);
        }
        return answer;
    }

    /** So many of one PATTERN after the other: first, first + 1, .. */
    static long[] upFrom(long first, int length) {
        long[] all = new long[length];
        for (int i = 0; i < length; i++) {
            all[i] = first + i;
        }
        return all;
    }

    static long[] same(long v, int length) {
        long[] all = new long[length];
        Arrays.fill(all, v);
        return all;
    }
}
