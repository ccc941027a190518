/** Promise 8, run: the bounds of WAY and ACTS, NOT of a net that is not WHOLE, FULL from 40000 ACTS on, its answers. */
public final class Promise08RunTest {
    private static final int MIN = Integer.MIN_VALUE, MAX = Integer.MAX_VALUE;

    public static void main(String[] args) {
        Due.cases(Promise08RunTest.class);
    }

    private static void bad(int way, int acts) {
        Twins.refused("run(" + way + ", " + acts + ", 0)", WeaveHall.BAD, Nets::small, hall -> hall.run(way, acts, 0));
        Twins.refused("run(" + way + ", " + acts + ", 0)", WeaveHall.BAD, Nets::begun, hall -> hall.run(way, acts, 0));
    }

    static void wayBelow0IsBad() {
        bad(-1, 1);
        bad(MIN, 1);
    }

    static void ways0To3AreTaken() {
        for (int way = 0; way < 4; way++) {
            WeaveHall hall = Nets.small();
            Due.due("run(" + way + ", 1, 0)", hall.run(way, 1, 0), 1);
            Due.due("ACTS", hall.count(2), 1);
        }
    }

    static void wayAbove3IsBad() {
        bad(4, 1);
        bad(MAX, 1);
    }

    static void acts0AreBad() {
        bad(0, 0);
        bad(0, -1);
        bad(0, MIN);
    }

    static void acts1AreDone() {
        WeaveHall hall = Nets.endless();
        Due.due("run(0, 1, 0)", hall.run(0, 1, 0), 1);
        Due.due("ACTS", hall.count(2), 1);
    }

    static void acts2000AreDone() {
        for (int way = 0; way < 4; way++) {
            WeaveHall hall = Nets.endless();
            Due.due("run(" + way + ", 2000, 0)", hall.run(way, 2000, 0), 1);
            Due.due("ACTS", hall.count(2), 2000);
        }
    }

    static void acts2001AreBad() {
        bad(0, 2001);
        bad(3, MAX);
    }

    static void everyXIsTaken() {
        for (int x : new int[] {MIN, MIN + 1, -1, 0, 1, MAX}) {
            for (int way = 0; way < 4; way++) {
                Due.due("run(" + way + ", 2000, " + x + ")", Nets.small().run(way, 2000, x), 0);
            }
        }
    }

    /** x, and its product, are ints that go round; the shift makes what is below 0 no WEAVER below 0. */
    static void xGoesRound() {
        for (int x : new int[] {MIN, -2, -1, 0, 1, 1 << 30, MAX}) {
            WeaveHall hall = new WeaveHall();
            for (int i = 0; i < 7; i++) {
                hall.weaver(3, 1);
                hall.band(i, 0, i, 0, 1);
            }
            int[] acts = new int[7];
            long state = x;
            for (int done = 0; done < 500; done++) {
                state = (state * 1103515245L + 12345L) & 0xffffffffL;
                acts[(int) ((state >> 16) % 7)]++;
            }
            hall.run(3, 500, x);
            for (int i = 0; i < 7; i++) {
                Due.due("x " + x + ": ACTS of " + i, hall.told(i, 3) + hall.told(i, 4), acts[i]);
            }
        }
    }

    /** The last WEAVER of three is the one by x, but WAITS: round, the first one is next. */
    static void byXTheNextOneIsRound() {
        int x = 0;
        while (((x * 1103515245 + 12345) >>> 16) % 3 != 2) {
            x++;
        }
        WeaveHall hall = new WeaveHall();
        Due.source(hall, 1, 2);
        hall.weaver(1, 0);
        Due.collect(hall);
        hall.band(0, 0, 1, 0, 2);
        hall.band(1, 0, 2, 0, 2);
        hall.run(3, 1, x);
        Due.due("SOURCE wrote", hall.told(0, 4), 1);
        hall.run(3, 1, x);
        Due.due("SOURCE wrote", hall.told(0, 4), 2);
        Due.due("SHIFT read", hall.told(1, 3), 0);
    }

    static void byTurnsItGoesRoundBehindTheLast() {
        WeaveHall hall = threeRings();
        hall.run(0, 4, 0);
        acts(hall, 2, 1, 1);
        hall.run(0, 3, 0);
        acts(hall, 3, 2, 2);
    }

    static void fromTheLastItGoesRoundBehindTheFirst() {
        WeaveHall hall = threeRings();
        hall.run(1, 4, 0);
        acts(hall, 1, 1, 2);
        hall.run(1, 2, 0);
        acts(hall, 1, 2, 3);
    }

    static void asManyAsItCanStaysWithTheFirst() {
        WeaveHall hall = threeRings();
        hall.run(2, 500, 0);
        acts(hall, 500, 0, 0);
    }

    /** DELAYS 0, 1, 2, each of them with a BAND to itself: each can always go on. */
    private static WeaveHall threeRings() {
        WeaveHall hall = new WeaveHall();
        for (int i = 0; i < 3; i++) {
            hall.weaver(3, 1);
            hall.band(i, 0, i, 0, 1);
        }
        return hall;
    }

    private static void acts(WeaveHall hall, int... want) {
        for (int i = 0; i < want.length; i++) {
            Due.due("ACTS of " + i, hall.told(i, 3) + hall.told(i, 4), want[i]);
        }
    }

    static void notOfANetThatIsNotWhole() {
        Twins.refused("run(0, 1, 0)", WeaveHall.NOT, Nets::open, hall -> hall.run(0, 1, 0));
        Twins.refused("run(3, 2000, 0)", WeaveHall.NOT, Nets::open, hall -> hall.run(3, 2000, 0));
    }

    static void notOfOneOpenPortOut() {
        Twins.refused("run(0, 1, 0)", WeaveHall.NOT, () -> Nets.alone(0), hall -> hall.run(0, 1, 0));
    }

    static void notOfOneOpenPortIn() {
        Twins.refused("run(0, 1, 0)", WeaveHall.NOT, () -> Nets.alone(9), hall -> hall.run(0, 1, 0));
    }

    static void notBeginsNoRun() {
        WeaveHall hall = Nets.open();
        hall.run(0, 1, 0);
        Due.due("a RUN", hall.count(5), 0);
        Due.due("band", hall.band(2, 1, 4, 0, 1), 3);
        Due.due("run(0, 1, 0)", hall.run(0, 1, 0), 1);
    }

    static void badIsAheadOfNot() {
        Due.due("WAY", Nets.open().run(4, 1, 0), WeaveHall.BAD);
        Due.due("WAY", Nets.open().run(-1, 1, 0), WeaveHall.BAD);
        Due.due("ACTS", Nets.open().run(0, 0, 0), WeaveHall.BAD);
        Due.due("ACTS", Nets.open().run(0, 2001, 0), WeaveHall.BAD);
    }

    static void badBeginsNoRun() {
        WeaveHall hall = Nets.small();
        hall.run(4, 1, 0);
        hall.run(0, 0, 0);
        Due.due("a RUN", hall.count(5), 0);
    }

    private static WeaveHall did(int acts) {
        WeaveHall hall = Nets.endless();
        for (int left = acts; left > 0; left -= 2000) {
            hall.run(0, Math.min(left, 2000), 0);
        }
        return hall;
    }

    static void with39999ActsItGoesOn() {
        WeaveHall hall = did(39999);
        Due.due("ACTS", hall.count(2), 39999);
        Due.due("run(0, 1, 0)", hall.run(0, 1, 0), 1);
        Due.due("ACTS", hall.count(2), 40000);
        Due.due("run(0, 1, 0)", hall.run(0, 1, 0), WeaveHall.FULL);
    }

    static void with39999ActsACallMayDo2000More() {
        WeaveHall hall = did(39999);
        Due.due("run(0, 2000, 0)", hall.run(0, 2000, 0), 1);
        Due.due("ACTS", hall.count(2), 41999);
        Due.due("run(0, 1, 0)", hall.run(0, 1, 0), WeaveHall.FULL);
    }

    static void with40000ActsItIsFull() {
        Twins.refused("run(0, 1, 0)", WeaveHall.FULL, () -> did(40000), hall -> hall.run(0, 1, 0));
        Twins.refused("run(2, 2000, 0)", WeaveHall.FULL, () -> did(40000), hall -> hall.run(2, 2000, 0));
    }

    static void badIsAheadOfFull() {
        WeaveHall hall = did(40000);
        Due.due("WAY", hall.run(4, 1, 0), WeaveHall.BAD);
        Due.due("ACTS", hall.run(0, 0, 0), WeaveHall.BAD);
        Due.due("ACTS", hall.run(0, 2001, 0), WeaveHall.BAD);
    }

    static void fullIsOverBehindReset() {
        WeaveHall hall = did(40000);
        Due.due("reset()", hall.reset(), 40000);
        Due.due("run(0, 2000, 0)", hall.run(0, 2000, 0), 1);
        Due.due("ACTS", hall.count(2), 2000);
    }

    /** SOURCE (length), REPEAT a, shifts of SHIFT, COLLECT. */
    private static void addLine(WeaveHall hall, int length, int a, int shifts) {
        int last = Due.source(hall, Nets.upFrom(0, length));
        for (int i = 0; i <= shifts + 1; i++) {
            int next = i == 0 ? hall.weaver(2, a) : i <= shifts ? hall.weaver(1, 0) : Due.collect(hall);
            hall.band(last, 0, next, 0, 50);
            last = next;
        }
    }

    /** Two lines that have just 40000 ACTS: the call that does the last of them is taken, the next is not. */
    static void finishedWithThe40000thAct() {
        WeaveHall hall = new WeaveHall();
        addLine(hall, 200, 20, 2);
        addLine(hall, 159, 16, 2);
        for (int i = 0; i < 19; i++) {
            Due.due("2000 of 40000", hall.run(0, 2000, 0), 1);
        }
        Due.due("the last 2000", hall.run(0, 2000, 0), 0);
        Due.due("ACTS", hall.count(2), 40000);
        Due.due("one more call", hall.run(0, 1, 0), WeaveHall.FULL);
    }

    /** SOURCE: 2 PATTERNS and END, COLLECT: 2, that it ENDED and END: 7 ACTS. */
    static void finishedIsAheadOfActsDone() {
        WeaveHall hall = Nets.pair(1, 1, 2);
        Due.due("6 of 7", hall.run(0, 6, 0), 1);
        hall.reset();
        Due.due("7 of 7", hall.run(0, 7, 0), 0);
        Due.due("ACTS", hall.count(2), 7);
        hall.reset();
        Due.due("8 of 7", hall.run(0, 8, 0), 0);
        Due.due("ACTS", hall.count(2), 7);
    }

    static void finishedStaysFinished() {
        WeaveHall hall = Nets.pair(1, 1, 2);
        hall.run(0, 2000, 0);
        for (int way = 0; way < 4; way++) {
            Due.due("again", hall.run(way, 2000, way), 0);
            Due.due("ACTS", hall.count(2), 7);
        }
    }

    static void finishedWhenAllWaitToRead() {
        WeaveHall hall = Nets.alone(1);
        hall.band(0, 0, 0, 0, 1);
        Due.due("run(0, 2000, 0)", hall.run(0, 2000, 0), 0);
        Due.due("ACTS", hall.count(2), 0);
        Due.due("WAITS to read", hall.told(0, 1), 1);
        Due.due("a RUN", hall.count(5), 1);
    }

    private static int actsUntilItSticks() {
        WeaveHall hall = Nets.doubling(50);
        Nets.toTheEnd(hall, 0);
        return hall.count(2);
    }

    private static int answerOfTheLast(int acts) {
        WeaveHall hall = Nets.doubling(50);
        int answer = 1;
        for (int left = acts; left > 0; left -= 2000) {
            answer = hall.run(0, Math.min(left, 2000), 0);
        }
        Due.due("ACTS", hall.count(2), acts);
        return answer;
    }

    static void sticksIsAheadOfActsDone() {
        int acts = actsUntilItSticks();
        Due.due("the last ACT", answerOfTheLast(acts), 2);
        Due.due("one fewer", answerOfTheLast(acts - 1), 1);
    }

    static void itSticksAgainAndAgain() {
        WeaveHall hall = Nets.doubling(50);
        Due.due("STICKS", Nets.toTheEnd(hall, 0), 2);
        int acts = hall.count(2);
        for (int way = 0; way < 4; way++) {
            Due.due("again", hall.run(way, 2000, way), 2);
            Due.due("ACTS", hall.count(2), acts);
            Due.due("WIDENED", hall.count(3), 10);
        }
    }

    /** One WAITS to write at a BAND of 1000, the other is over or WAITS to read: it STICKS, it is not FINISHED. */
    static void itSticksIfOneAloneWaitsToWrite() {
        WeaveHall hall = new WeaveHall();
        Due.source(hall, Nets.upFrom(0, 200));
        hall.weaver(2, 6);
        hall.weaver(6, 0);
        hall.band(0, 0, 1, 0, 50);
        hall.band(1, 0, 2, 1, 50);
        hall.band(2, 0, 2, 0, 1);
        Due.due("STICKS", Nets.toTheEnd(hall, 0), 2);
        Due.due("ENDED", hall.told(0, 1), 3);
        Due.due("WAITS to write", hall.told(1, 1), 2);
        Due.due("WAITS to read", hall.told(2, 1), 1);
        Due.due("WIDTH", hall.bandTold(1, 0), 1000);
        Due.due("on it", hall.bandTold(1, 1), 1000);
    }

    /** The same with the one that WAITS to write as WEAVER 0, and as the last one. */
    static void itSticksIfTheFirstOrTheLastWaitsToWrite() {
        for (int place = 0; place < 3; place += 2) {
            WeaveHall hall = new WeaveHall();
            for (int i = 0; i < 3; i++) {
                hall.weaver(i == place ? 2 : i == 1 ? 6 : 0, 20);
            }
            int source = 2 - place;
            for (int i = 0; i < 60; i++) {
                hall.feed(source, i);
            }
            hall.band(source, 0, place, 0, 50);
            hall.band(place, 0, 1, 1, 50);
            hall.band(1, 0, 1, 0, 1);
            Due.due("STICKS", Nets.toTheEnd(hall, 2), 2);
            Due.due("WAITS to write", hall.told(place, 1), 2);
            Due.due("ENDED", hall.told(source, 1), 3);
        }
    }

    /** 33, 66, .. 528, 1000 and 50, 100, .. 800, 1000 by turns: BAND 0 is 1000, and yet BAND 1 of 800 is WIDENED. */
    static void itDoesNotStickWhileOneBandCanBeWidened() {
        WeaveHall hall = Nets.doubling(33);
        hall.width(1, 50);
        Due.due("STICKS", Nets.toTheEnd(hall, 0), 2);
        Due.due("WIDENED", hall.count(3), 10);
        for (int i = 0; i < 10; i++) {
            Due.due("widened(" + i + ")", hall.widened(i), i % 2);
        }
        Due.due("WIDTH", hall.bandTold(0, 0), 1000);
        Due.due("WIDTH", hall.bandTold(1, 0), 1000);
    }

    /** Nobody can go on, but a BAND can be WIDENED: the ACTS are done, and with the next one it is. */
    static void actsDoneAheadOfAWidening() {
        WeaveHall hall = new WeaveHall();
        Due.source(hall, 1, 2);
        hall.weaver(6, 0);
        hall.band(0, 0, 1, 1, 1);
        hall.band(1, 0, 1, 0, 1);
        Due.due("run(0, 1, 0)", hall.run(0, 1, 0), 1);
        Due.due("WAITS to write", hall.told(0, 1), 2);
        Due.due("WIDENED", hall.count(3), 0);
        Due.due("WIDTH", hall.bandTold(0, 0), 1);
        Due.due("run(0, 1, 0)", hall.run(0, 1, 0), 1);
        Due.due("WIDENED", hall.count(3), 1);
        Due.due("WIDTH", hall.bandTold(0, 0), 2);
        Due.due("ACTS", hall.count(2), 2);
    }

    static void eachCallBeginsWithTheFirstOfItsWay() {
        WeaveHall hall = threeRings();
        hall.run(0, 1, 0);
        hall.run(0, 1, 0);
        acts(hall, 2, 0, 0);
        hall.run(1, 1, 0);
        hall.run(1, 1, 0);
        acts(hall, 2, 0, 2);
        hall.run(0, 2, 0);
        hall.run(2, 3, 0);
        acts(hall, 6, 1, 2);
    }

    static void xIsLookedAtAsEachCallBegins() {
        WeaveHall hall = threeRings();
        for (int i = 1; i <= 9; i++) {
            hall.run(3, 1, 4);
        }
        int[] all = new int[3];
        all[((4 * 1103515245 + 12345) >>> 16) % 3] = 9;
        acts(hall, all);
    }

    static void aRunGoesOnByAnotherWay() {
        WeaveHall hall = Nets.small();
        int answer = 1;
        for (int calls = 0; calls < 100 && answer == 1; calls++) {
            answer = hall.run(calls % 4, 1, calls);
        }
        WeaveHall other = Nets.small();
        other.run(0, 2000, 0);
        Due.due("FINISHED", answer, 0);
        Due.due("ACTS", hall.count(2), other.count(2));
        for (int i = 0; i < 4; i++) {
            Due.due("DIGEST", hall.digest(i), other.digest(i));
        }
    }

    static void withFortyWeaversTheLastHasItsTurn() {
        for (int way = 0; way < 4; way++) {
            WeaveHall hall = Nets.fullOfWeavers();
            Due.due("FINISHED", hall.run(way, 2000, 9), 0);
            Due.due("CLOTH of 39", hall.woven(39, 0), 19);
            Due.due("ACTS", hall.count(2), 20 * 5);
        }
    }
}
