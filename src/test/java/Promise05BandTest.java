/** Promise 5, band: the bounds of WEAVERS, PORTS and WIDTH, PORTS that are joined, NOT in a RUN, FULL behind 60. */
public final class Promise05BandTest {
    public static void main(String[] args) {
        Due.cases(Promise05BandTest.class);
    }

    /** In the open net PORT 1 out of SCRIPT 2 and PORT 0 in of COLLECT 4 can still be joined. */
    private static void refused(int want, int from, int out, int to, int in, int width) {
        Twins.refused("band(" + from + ", " + out + ", " + to + ", " + in + ", " + width + ")", want, Nets::open,
            hall -> hall.band(from, out, to, in, width));
    }

    static void numbersAreAsTheyCome() {
        WeaveHall hall = Nets.open();
        Due.due("refused", hall.band(2, 1, 4, 0, 0), WeaveHall.BAD);
        Due.due("the fourth", hall.band(2, 1, 4, 0, 4), 3);
        Due.due("from", hall.bandTold(3, 6), 2);
        Due.due("to", hall.bandTold(3, 7), 4);
        Due.due("WIDTH", hall.bandTold(3, 0), 4);
        Due.due("WHOLE", hall.count(4), 1);
    }

    static void fromBelow0IsBad() {
        refused(WeaveHall.BAD, -1, 0, 4, 0, 1);
    }

    static void fromBehindTheLastIsBad() {
        refused(WeaveHall.BAD, 5, 0, 4, 0, 1);
    }

    static void toBelow0IsBad() {
        refused(WeaveHall.BAD, 2, 1, -1, 0, 1);
    }

    static void toBehindTheLastIsBad() {
        refused(WeaveHall.BAD, 2, 1, 5, 0, 1);
    }

    static void numbersFarAwayAreBad() {
        for (int far : Nets.FAR) {
            refused(WeaveHall.BAD, far, 1, 4, 0, 1);
            refused(WeaveHall.BAD, 2, far, 4, 0, 1);
            refused(WeaveHall.BAD, 2, 1, far, 0, 1);
            refused(WeaveHall.BAD, 2, 1, 4, far, 1);
            refused(WeaveHall.BAD, 2, 1, 4, 0, far);
        }
    }

    static void portsBelow0AreBad() {
        refused(WeaveHall.BAD, 2, -1, 4, 0, 1);
        refused(WeaveHall.BAD, 2, 1, 4, -1, 1);
    }

    static void eachKindHasItsPortsOutAndNoMore() {
        for (int kind = 0; kind < 14; kind++) {
            WeaveHall hall = Nets.alone(kind);
            for (int port = 0; port < 4; port++) {
                int collect = Due.collect(hall);
                Due.due("KIND " + kind + ", PORT out " + port, hall.band(0, port, collect, 0, 1),
                    port < Nets.OUTS[kind] ? port : WeaveHall.BAD);
            }
            Due.due("BANDS", hall.count(1), Nets.OUTS[kind]);
        }
    }

    static void eachKindHasItsPortsInAndNoMore() {
        for (int kind = 0; kind < 14; kind++) {
            WeaveHall hall = Nets.alone(kind);
            for (int port = 0; port < 5; port++) {
                int source = Due.source(hall);
                Due.due("KIND " + kind + ", PORT in " + port, hall.band(source, 0, 0, port, 1),
                    port < Nets.INS[kind] ? port : WeaveHall.BAD);
            }
            Due.due("BANDS", hall.count(1), Nets.INS[kind]);
        }
    }

    static void thePortBehindTheLastIsBad() {
        refused(WeaveHall.BAD, 2, 2, 4, 0, 1);
        refused(WeaveHall.BAD, 2, 1, 4, 1, 1);
        refused(WeaveHall.BAD, 3, 0, 4, 0, 1);
        refused(WeaveHall.BAD, 2, 1, 0, 0, 1);
    }

    static void width0IsBad() {
        refused(WeaveHall.BAD, 2, 1, 4, 0, 0);
        refused(WeaveHall.BAD, 2, 1, 4, 0, -1);
    }

    static void width51IsBad() {
        refused(WeaveHall.BAD, 2, 1, 4, 0, 51);
    }

    static void widths1To50AreTaken() {
        for (int width = 1; width <= 50; width++) {
            WeaveHall hall = Nets.open();
            Due.due("WIDTH " + width, hall.band(2, 1, 4, 0, width), 3);
            Due.due("WIDTH " + width, hall.bandTold(3, 0), width);
        }
    }

    /** SOURCE 0 with PATTERNS enough at PORT 1 in of a SUM that WAITS at PORT 0, for its own. */
    private static void holds(int width) {
        WeaveHall hall = new WeaveHall();
        Due.source(hall, Nets.upFrom(0, 60));
        hall.weaver(6, 0);
        hall.band(0, 0, 1, 1, width);
        hall.band(1, 0, 1, 0, 1);
        Due.due("so many", hall.run(0, width, 0), 1);
        Due.due("on it", hall.bandTold(0, 1), width);
        Due.due("WAITS to write", hall.told(0, 1), 2);
        Due.due("nothing is WIDENED yet", hall.count(3), 0);
        if (width > 1) {
            hall.reset();
            hall.run(0, width - 1, 0);
            Due.due("one fewer", hall.told(0, 1), 0);
        }
    }

    static void width1HoldsOne() {
        holds(1);
    }

    static void width2HoldsTwo() {
        holds(2);
    }

    static void width50HoldsFifty() {
        holds(50);
    }

    static void outThatIsJoinedIsNot() {
        refused(WeaveHall.NOT, 0, 0, 4, 0, 1);
        refused(WeaveHall.NOT, 2, 0, 4, 0, 1);
    }

    static void inThatIsJoinedIsNot() {
        refused(WeaveHall.NOT, 2, 1, 3, 0, 1);
        refused(WeaveHall.NOT, 2, 1, 2, 0, 1);
        refused(WeaveHall.NOT, 2, 1, 2, 1, 1);
    }

    static void bothThatAreJoinedAreNot() {
        refused(WeaveHall.NOT, 0, 0, 2, 0, 1);
    }

    static void theOtherPortOfARefusedBandStaysOpen() {
        WeaveHall hall = Nets.open();
        hall.band(0, 0, 4, 0, 1);
        hall.band(2, 1, 3, 0, 1);
        hall.band(2, 1, 4, 0, 51);
        Due.due("both are open", hall.band(2, 1, 4, 0, 1), 3);
    }

    static void oneMayLeadToItsOwnWeaver() {
        WeaveHall hall = Nets.alone(1);
        Due.due("to itself", hall.band(0, 0, 0, 0, 1), 0);
        Due.due("from", hall.bandTold(0, 6), 0);
        Due.due("to", hall.bandTold(0, 7), 0);
        Due.due("again", hall.band(0, 0, 0, 0, 1), WeaveHall.NOT);
    }

    static void weaver39IsJoined() {
        WeaveHall hall = Nets.scripts(0);
        Due.due("from the last to the first", hall.band(39, 1, 0, 1, 1), 0);
        Due.due("from the first to the last", hall.band(0, 0, 39, 0, 1), 1);
        Due.due("from", hall.bandTold(0, 6), 39);
        Due.due("to", hall.bandTold(1, 7), 39);
        Due.due("no WEAVER 40", hall.band(40, 0, 1, 0, 1), WeaveHall.BAD);
        Due.due("no WEAVER 40", hall.band(1, 0, 40, 0, 1), WeaveHall.BAD);
    }

    static void number59IsTheLastThenItIsFull() {
        WeaveHall hall = Nets.scripts(59);
        Due.due("BANDS", hall.count(1), 59);
        Due.due("the 60th", hall.band(31, 0, 32, 0, 1), 59);
        Due.due("the 61st", hall.band(32, 0, 33, 0, 1), WeaveHall.FULL);
        Due.due("BANDS", hall.count(1), 60);
        Due.due("from", hall.bandTold(59, 6), 31);
        Due.due("no BAND 60", hall.bandTold(60, 0), WeaveHall.BAD);
    }

    static void fullChangesNothing() {
        Twins.refused("band(32, 0, 33, 0, 1)", WeaveHall.FULL, () -> Nets.scripts(60),
            hall -> hall.band(32, 0, 33, 0, 1));
    }

    static void fullIsOverBehindClear() {
        WeaveHall hall = Nets.scripts(60);
        hall.clear();
        hall.weaver(1, 0);
        Due.due("the first again", hall.band(0, 0, 0, 0, 1), 0);
    }

    static void allSixtyCanBeInAWholeNet() {
        WeaveHall hall = new WeaveHall();
        for (int i = 0; i < 40; i++) {
            hall.weaver(i < 20 ? 13 : 1, 0);
        }
        for (int i = 0; i < 40; i++) {
            Due.due("PORT 0", hall.band(i, 0, (i + 1) % 40, 0, 1), i);
        }
        for (int i = 0; i < 20; i++) {
            Due.due("WHOLE", hall.count(4), 0);
            Due.due("PORT 1", hall.band(i, 1, (i + 1) % 20, 1, 1), 40 + i);
        }
        Due.due("WHOLE", hall.count(4), 1);
        Due.due("FINISHED", Nets.toTheEnd(hall, 0), 0);
    }

    static void notInARun() {
        Twins.refused("band(0, 0, 2, 0, 1)", WeaveHall.NOT, Nets::begun, hall -> hall.band(0, 0, 2, 0, 1));
    }

    static void behindResetTheNetIsStillJoined() {
        WeaveHall hall = Nets.begun();
        hall.reset();
        Due.due("joined", hall.band(0, 0, 2, 0, 1), WeaveHall.NOT);
        int shift = hall.weaver(1, 0);
        Due.due("a new one", hall.band(shift, 0, shift, 0, 1), 4);
    }

    static void badIsAheadOfNotForJoinedPorts() {
        refused(WeaveHall.BAD, 0, 0, 2, 0, 51);
        refused(WeaveHall.BAD, 0, 0, 5, 0, 1);
        refused(WeaveHall.BAD, 0, 0, 2, 2, 1);
        refused(WeaveHall.BAD, -1, 0, 2, 0, 1);
        refused(WeaveHall.BAD, 0, 1, 2, 0, 1);
    }

    static void badIsAheadOfNotInARun() {
        Twins.refused("band(2, 1, 4, 0, 51)", WeaveHall.BAD, Nets::begun, hall -> hall.band(2, 1, 4, 0, 51));
        Twins.refused("band(2, 2, 4, 0, 1)", WeaveHall.BAD, Nets::begun, hall -> hall.band(2, 2, 4, 0, 1));
        Twins.refused("band(2, 1, 5, 0, 1)", WeaveHall.BAD, Nets::begun, hall -> hall.band(2, 1, 5, 0, 1));
    }

    static void badIsAheadOfFull() {
        WeaveHall hall = Nets.scripts(60);
        Due.due("WIDTH", hall.band(32, 0, 33, 0, 51), WeaveHall.BAD);
        Due.due("PORT out", hall.band(32, 2, 33, 0, 1), WeaveHall.BAD);
        Due.due("PORT in", hall.band(32, 0, 33, 2, 1), WeaveHall.BAD);
        Due.due("WEAVER", hall.band(40, 0, 33, 0, 1), WeaveHall.BAD);
    }

    static void notIsAheadOfFull() {
        Twins.refused("out is joined", WeaveHall.NOT, () -> Nets.scripts(60), hall -> hall.band(0, 0, 33, 0, 1));
        Twins.refused("in is joined", WeaveHall.NOT, () -> Nets.scripts(60), hall -> hall.band(32, 0, 1, 0, 1));
    }
}
