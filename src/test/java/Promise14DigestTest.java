/** Promise 14, digest: h = 7, becomes 31 h and each PATTERN of the HISTORY, going round; 0 of no such BAND. */
public final class Promise14DigestTest {
    public static void main(String[] args) {
        Due.cases(Promise14DigestTest.class);
    }

    private static void isOf(WeaveHall hall, int band, long... history) {
        long h = 7;
        for (long v : history) {
            h = h * 31 + v;
        }
        Due.due("digest(" + band + ")", hall.digest(band), h);
    }

    static void ofNothingIs7() {
        WeaveHall hall = Nets.pair(1);
        Due.due("ahead of a RUN", hall.digest(0), 7);
        hall.run(0, 2000, 0);
        Due.due("nothing written", hall.digest(0), 7);
    }

    static void ofNoSuchBandIs0() {
        WeaveHall hall = Nets.small();
        Due.due("digest(-1)", hall.digest(-1), 0);
        Due.due("digest(4)", hall.digest(4), 0);
        Due.due("digest(60)", hall.digest(60), 0);
        for (int far : Nets.FAR) {
            Due.due("digest(" + far + ")", hall.digest(far), 0);
        }
    }

    static void theFirstAndTheLastBand() {
        Due.due("digest(0)", Nets.small().digest(0), 7);
        Due.due("digest(3)", Nets.small().digest(3), 7);
        Due.due("digest(59)", Nets.scripts(60).digest(59), 7);
        Due.due("digest(60)", Nets.scripts(60).digest(60), 0);
    }

    static void ofOneAndOfTwo() {
        WeaveHall hall = Nets.pair(9, 5, -3);
        hall.run(2, 1, 0);
        Due.due("of one", hall.digest(0), 7 * 31 + 5);
        hall.run(2, 1, 0);
        Due.due("of two", hall.digest(0), (7 * 31 + 5) * 31 - 3);
    }

    static void of0ItIsNotOfNothing() {
        WeaveHall hall = Nets.pair(9, 0);
        hall.run(2, 1, 0);
        Due.due("of 0", hall.digest(0), 217);
    }

    static void itGoesRound() {
        long[] feed = {Long.MAX_VALUE, Long.MAX_VALUE, Long.MIN_VALUE, -1, 1};
        WeaveHall hall = Nets.pair(9, feed);
        hall.run(0, 2000, 0);
        isOf(hall, 0, feed);
        Due.due("as written out", Nets.pair(9, 1).digest(0), 7);
        WeaveHall one = Nets.pair(9, Long.MAX_VALUE);
        one.run(0, 2000, 0);
        Due.due("217 and the greatest", one.digest(0), Long.MIN_VALUE + 216);
    }

    static void ofManyItGoesRoundBy31() {
        WeaveHall hall = Nets.pair(50, Nets.upFrom(1, 200));
        hall.run(0, 2000, 0);
        isOf(hall, 0, Nets.upFrom(1, 200));
    }

    static void of301AllAreInIt() {
        WeaveHall hall = Nets.line(2, 7, Nets.same(5, 43));
        Due.due("FINISHED", Nets.toTheEnd(hall, 0), 0);
        isOf(hall, 1, Nets.same(5, 301));
    }

    static void of300AllAreInIt() {
        WeaveHall hall = Nets.line(2, 3, Nets.same(5, 100));
        Due.due("FINISHED", Nets.toTheEnd(hall, 0), 0);
        isOf(hall, 1, Nets.same(5, 300));
    }

    static void ofTwentyThousand() {
        WeaveHall hall = Nets.endless();
        for (int i = 0; i < 20; i++) {
            hall.run(0, 2000, 0);
        }
        isOf(hall, 0, Nets.same(1, 20000));
    }

    static void whatIsWrittenToOneWhoIsOverIsInIt() {
        WeaveHall hall = Nets.line(12, 0, 7, 8, 9);
        hall.run(1, 2000, 0);
        isOf(hall, 0, 7, 8, 9);
        isOf(hall, 1);
    }

    static void behindResetItIs7() {
        WeaveHall hall = Nets.begun();
        hall.reset();
        for (int i = 0; i < 4; i++) {
            Due.due("digest(" + i + ")", hall.digest(i), 7);
        }
    }

    static void toTellChangesNothing() {
        Twins.changesNothing("digest(0)", Nets::begun, hall -> hall.digest(0));
        Twins.changesNothing("digest(4)", Nets::begun, hall -> hall.digest(4));
        Twins.changesNothing("digest(-1)", Nets::begun, hall -> hall.digest(-1));
    }
}
