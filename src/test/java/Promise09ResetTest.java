/** Promise 9, reset: how many ACTS were done; all is as ahead of the RUN; NOT if none has begun. */
public final class Promise09ResetTest {
    public static void main(String[] args) {
        Due.cases(Promise09ResetTest.class);
    }

    static void notOfANewObject() {
        Twins.refused("reset()", WeaveHall.NOT, WeaveHall::new, WeaveHall::reset);
    }

    static void notAheadOfARun() {
        Twins.refused("reset()", WeaveHall.NOT, Nets::small, WeaveHall::reset);
        Twins.refused("reset()", WeaveHall.NOT, Nets::open, WeaveHall::reset);
    }

    static void notTwice() {
        WeaveHall hall = Nets.begun();
        Due.due("reset()", hall.reset(), 6);
        Due.due("reset()", hall.reset(), WeaveHall.NOT);
    }

    static void notBehindClear() {
        WeaveHall hall = Nets.begun();
        hall.clear();
        Due.due("reset()", hall.reset(), WeaveHall.NOT);
    }

    static void notBehindARunThatWasRefused() {
        WeaveHall hall = Nets.small();
        hall.run(4, 1, 0);
        hall.run(0, 2001, 0);
        Due.due("reset()", hall.reset(), WeaveHall.NOT);
        WeaveHall open = Nets.open();
        open.run(0, 1, 0);
        Due.due("reset()", open.reset(), WeaveHall.NOT);
    }

    static void ofARunWithoutActsIs0() {
        WeaveHall hall = Nets.alone(1);
        hall.band(0, 0, 0, 0, 1);
        hall.run(0, 1, 0);
        Due.due("reset()", hall.reset(), 0);
        Due.due("reset()", hall.reset(), WeaveHall.NOT);
    }

    static void ofOneActIs1() {
        WeaveHall hall = Nets.small();
        hall.run(0, 1, 0);
        Due.due("reset()", hall.reset(), 1);
    }

    static void ofTheMostActsIs41999() {
        WeaveHall hall = Nets.endless();
        hall.run(0, 1999, 0);
        for (int i = 0; i < 20; i++) {
            hall.run(0, 2000, 0);
        }
        Due.due("run(0, 1, 0)", hall.run(0, 1, 0), WeaveHall.FULL);
        Due.due("reset()", hall.reset(), 41999);
        Due.due("ACTS", hall.count(2), 0);
    }

    /** Wherever it is cut off, behind reset() it tells just what a hall tells that has not run. */
    static void allIsAsAheadOfIt() {
        for (int acts = 1; acts < 32; acts++) {
            int some = acts;
            Twins.changesNothing("run(" + acts % 4 + ", " + acts + ", 5) and reset()", Nets::small,
                hall -> hall.run(some % 4, some, 5) + hall.reset());
        }
    }

    static void allIsAsAheadOfAWideningToo() {
        Twins.changesNothing("STICKING and reset()", () -> Nets.doubling(7),
            hall -> Nets.toTheEnd(hall, 2) + hall.reset());
    }

    static void allIsAsAheadOfFailuresToo() {
        Twins.changesNothing("FAILURE and reset()", () -> Nets.line(12, 2, 5, 6, 7),
            hall -> hall.run(0, 2000, 0) + hall.reset());
    }

    static void allIsAsAheadOfHoldingToo() {
        for (int kind : new int[] {2, 4, 6, 7, 8, 10, 11}) {
            for (int acts = 1; acts < 20; acts += 3) {
                int one = kind;
                int some = acts;
                Twins.changesNothing("KIND " + kind + " and reset()", () -> fed(one),
                    hall -> hall.run(0, some, 0) + hall.reset());
            }
        }
    }

    private static WeaveHall fed(int kind) {
        WeaveHall hall = Nets.around(kind);
        for (int i = 0; i < Nets.INS[kind]; i++) {
            hall.feed(1 + i, 3 - i);
            hall.feed(1 + i, 2 + i);
            hall.feed(1 + i, 0);
        }
        return hall;
    }

    static void widthsAreAsTold() {
        WeaveHall hall = Nets.doubling(7);
        Due.due("STICKS", Nets.toTheEnd(hall, 0), 2);
        Due.due("WIDTH", hall.bandTold(0, 0), 1000);
        hall.reset();
        for (int i = 0; i < 2; i++) {
            Due.due("WIDTH", hall.bandTold(i, 0), 7);
            Due.due("WIDENED", hall.bandTold(i, 5), 0);
        }
        Due.due("WIDENED", hall.count(3), 0);
        Due.due("widened(0)", hall.widened(0), WeaveHall.BAD);
    }

    static void aSecondRunIsAsTheFirst() {
        WeaveHall hall = Nets.doubling(7);
        Due.due("STICKS", Nets.toTheEnd(hall, 3), 2);
        int acts = hall.count(2);
        long mark = hall.digest(0);
        int widened = hall.count(3);
        Due.due("reset()", hall.reset(), acts);
        Due.due("STICKS", Nets.toTheEnd(hall, 3), 2);
        Due.due("ACTS", hall.count(2), acts);
        Due.due("DIGEST", hall.digest(0), mark);
        Due.due("WIDENED", hall.count(3), widened);
    }

    /** SCRIPT 2 writes register 3 ahead of what it adds to it. */
    static void registersAre0Again() {
        WeaveHall hall = Nets.scripted(new long[] {5, 6}, 1, 0, 3, 0, 0, 1, 3, 3, 1);
        for (int acts : new int[] {2000, 9, 12, 2000}) {
            hall.run(0, acts, 0);
            hall.reset();
        }
        Due.due("FINISHED", hall.run(0, 2000, 0), 0);
        Due.dueAll("CLOTH", Due.cloth(hall, 3), 0, 5, 11);
    }

    static void feedAndStepsStay() {
        WeaveHall hall = Nets.begun();
        hall.reset();
        Due.due("FEED", hall.told(0, 5), 3);
        Due.due("FEED", hall.told(1, 5), 2);
        Due.due("STEPS", hall.told(2, 5), 4);
        Due.due("CLOTH", hall.told(3, 5), 0);
        Due.due("BANDS", hall.count(1), 4);
        Due.due("WHOLE", hall.count(4), 1);
    }
}
