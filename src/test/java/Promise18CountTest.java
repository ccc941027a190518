/** Promise 18, count: each number from nothing to as much as there may be; BAD beyond 0 to 6. */
public final class Promise18CountTest {
    public static void main(String[] args) {
        Due.cases(Promise18CountTest.class);
    }

    private static void bad(int what) {
        Twins.refused("count(" + what + ")", WeaveHall.BAD, Nets::begun, hall -> hall.count(what));
    }

    static void whatBelow0IsBad() {
        bad(-1);
    }

    static void whatAbove6IsBad() {
        bad(7);
    }

    static void whatFarAwayIsBad() {
        for (int far : Nets.FAR) {
            bad(far);
        }
    }

    static void toTellChangesNothing() {
        for (int what = 0; what < 7; what++) {
            int one = what;
            Twins.changesNothing("count(" + what + ")", Nets::begun, hall -> hall.count(one));
        }
    }

    static void weaversFrom0To40() {
        WeaveHall hall = new WeaveHall();
        for (int i = 0; i < 40; i++) {
            Due.due("WEAVERS", hall.count(0), i);
            hall.weaver(i % 14, 1);
        }
        Due.due("WEAVERS", hall.count(0), 40);
        hall.weaver(0, 0);
        Due.due("refused", hall.count(0), 40);
    }

    static void bandsFrom0To60() {
        WeaveHall hall = Nets.scripts(0);
        for (int i = 0; i < 60; i++) {
            Due.due("BANDS", hall.count(1), i);
            hall.band(i / 2, i % 2, i / 2 + 1, i % 2, 1);
        }
        Due.due("BANDS", hall.count(1), 60);
        hall.band(35, 0, 36, 0, 1);
        Due.due("refused", hall.count(1), 60);
    }

    static void actsFrom0To41999() {
        WeaveHall hall = Nets.endless();
        Due.due("ahead of a RUN", hall.count(2), 0);
        hall.run(0, 1, 0);
        Due.due("one", hall.count(2), 1);
        hall.run(1, 1998, 0);
        Due.due("1999", hall.count(2), 1999);
        for (int i = 0; i < 20; i++) {
            hall.run(i % 4, 2000, i);
        }
        Due.due("the most", hall.count(2), 41999);
        hall.run(0, 1, 0);
        Due.due("refused", hall.count(2), 41999);
        hall.reset();
        Due.due("behind reset()", hall.count(2), 0);
    }

    static void actsOfARunThatIsFinishedStay() {
        WeaveHall hall = Nets.pair(1, 1);
        hall.run(0, 2000, 0);
        Due.due("SOURCE 2, COLLECT 3", hall.count(2), 5);
        hall.run(0, 2000, 0);
        Due.due("no more", hall.count(2), 5);
    }

    static void widenedFrom0OnAndBeyond100() {
        WeaveHall hall = Nets.rings();
        Due.due("ahead of a RUN", hall.count(3), 0);
        hall.run(0, 1, 0);
        Due.due("none yet", hall.count(3), 0);
        for (int i = 0; i < 3; i++) {
            hall.run(0, 2000, 0);
        }
        int sum = 0;
        for (int i = 0; i < 40; i++) {
            sum += hall.bandTold(i, 5);
        }
        Due.due("more than 100", hall.count(3) > 100 ? 1 : 0, 1);
        Due.due("WIDENED", hall.count(3), sum);
        hall.reset();
        Due.due("behind reset()", hall.count(3), 0);
    }

    static void withoutWeaversItIsWhole() {
        Due.due("WHOLE", new WeaveHall().count(4), 1);
    }

    static void wholeWhenTheLastPortIsJoined() {
        for (int kind = 0; kind < 14; kind++) {
            WeaveHall hall = Nets.alone(kind);
            Due.due("one alone", hall.count(4), 0);
            for (int port = 0; port < Nets.INS[kind]; port++) {
                int source = Due.source(hall);
                Due.due("PORT in is open", hall.count(4), 0);
                hall.band(source, 0, 0, port, 1);
            }
            for (int port = 0; port < Nets.OUTS[kind]; port++) {
                int collect = Due.collect(hall);
                Due.due("PORT out is open", hall.count(4), 0);
                hall.band(0, port, collect, 0, 1);
            }
            Due.due("KIND " + kind + " WHOLE", hall.count(4), 1);
            hall.weaver(1, 0);
            Due.due("no more", hall.count(4), 0);
        }
    }

    static void aRefusedBandDoesNotMakeItWhole() {
        WeaveHall hall = Nets.open();
        hall.band(2, 1, 4, 0, 51);
        hall.band(0, 0, 4, 0, 1);
        Due.due("WHOLE", hall.count(4), 0);
        hall.band(2, 1, 4, 0, 1);
        Due.due("WHOLE", hall.count(4), 1);
    }

    static void wholeInARunAndBehindReset() {
        WeaveHall hall = Nets.begun();
        Due.due("in a RUN", hall.count(4), 1);
        hall.reset();
        Due.due("behind reset()", hall.count(4), 1);
    }

    static void aRunHasBegunOrNot() {
        WeaveHall hall = Nets.small();
        Due.due("ahead of it", hall.count(5), 0);
        hall.run(4, 1, 0);
        Due.due("refused", hall.count(5), 0);
        hall.run(0, 1, 0);
        Due.due("begun", hall.count(5), 1);
        hall.run(0, 2000, 0);
        Due.due("FINISHED", hall.count(5), 1);
        hall.reset();
        Due.due("behind reset()", hall.count(5), 0);
        hall.run(0, 1, 0);
        hall.clear();
        Due.due("behind clear()", hall.count(5), 0);
    }

    static void partsFrom0To40AndBackTo1() {
        WeaveHall hall = new WeaveHall();
        for (int i = 0; i < 40; i++) {
            Due.due("parts", hall.count(6), i);
            hall.weaver(13, 0);
        }
        Due.due("parts", hall.count(6), 40);
        for (int i = 0; i < 39; i++) {
            hall.band(i + 1, 0, i, 0, 1);
            Due.due("parts", hall.count(6), 39 - i);
        }
    }

    static void aBandToItsOwnWeaverJoinsNobody() {
        WeaveHall hall = Nets.alone(1);
        hall.weaver(1, 0);
        hall.band(0, 0, 0, 0, 1);
        Due.due("parts", hall.count(6), 2);
    }

    static void aSecondBandBetweenTheSameJoinsNobody() {
        WeaveHall hall = Nets.scripts(0);
        hall.band(0, 0, 39, 0, 1);
        Due.due("parts", hall.count(6), 39);
        hall.band(0, 1, 39, 1, 1);
        hall.band(39, 0, 0, 0, 1);
        Due.due("parts", hall.count(6), 39);
    }

    /** Both ends far from each other in numbers, joined in the middle at last. */
    static void partsAreJoinedInAnyWay() {
        WeaveHall hall = Nets.scripts(0);
        for (int i = 0; i < 19; i++) {
            hall.band(39 - i, 0, i + 1, 0, 1);
            hall.band(i + 1, 1, 38 - i, 1, 1);
        }
        Due.due("all but WEAVER 0", hall.count(6), 2);
        hall.band(20, 0, 0, 0, 1);
        Due.due("all", hall.count(6), 1);
    }

    static void partsInARun() {
        WeaveHall hall = Nets.fullOfWeavers();
        hall.run(0, 1, 0);
        Due.due("parts", hall.count(6), 20);
    }
}
