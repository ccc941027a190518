/** Promise 11, woven: PATTERN i of a CLOTH, of which the first 300 are kept; 0 of none such. */
public final class Promise11WovenTest {
    public static void main(String[] args) {
        Due.cases(Promise11WovenTest.class);
    }

    /** COLLECT 2 with so many PATTERNS, 1, 1, .. 2, 2, .. */
    private static WeaveHall woven(int fed, int repeat) {
        WeaveHall hall = Nets.line(2, repeat, Nets.upFrom(1, fed));
        Due.due("FINISHED", Nets.toTheEnd(hall, 0), 0);
        Due.due("CLOTH", hall.told(2, 5), fed * repeat);
        return hall;
    }

    static void iBelow0Is0() {
        WeaveHall hall = woven(4, 1);
        Due.due("woven(2, -1)", hall.woven(2, -1), 0);
        Due.due("woven(2, -300)", hall.woven(2, -300), 0);
    }

    static void theFirstIs0() {
        Due.due("woven(2, 0)", woven(4, 1).woven(2, 0), 1);
    }

    static void theLastAndOneBehindIt() {
        WeaveHall hall = woven(4, 1);
        Due.due("woven(2, 3)", hall.woven(2, 3), 4);
        Due.due("woven(2, 4)", hall.woven(2, 4), 0);
    }

    static void iFarAwayIs0() {
        WeaveHall hall = woven(4, 1);
        for (int far : Nets.FAR) {
            Due.due("woven(2, " + far + ")", hall.woven(2, far), 0);
        }
    }

    static void anEmptyClothHasNone() {
        WeaveHall hall = Nets.pair(1);
        Due.due("ahead of a RUN", hall.woven(1, 0), 0);
        hall.run(0, 2000, 0);
        Due.due("woven(1, 0)", hall.woven(1, 0), 0);
    }

    static void of299TheLastIs298() {
        WeaveHall hall = woven(23, 13);
        Due.due("woven(2, 298)", hall.woven(2, 298), 23);
        Due.due("woven(2, 299)", hall.woven(2, 299), 0);
    }

    static void of300TheLastIs299() {
        WeaveHall hall = woven(100, 3);
        Due.due("woven(2, 299)", hall.woven(2, 299), 100);
        Due.due("woven(2, 300)", hall.woven(2, 300), 0);
    }

    static void of301TheLastKeptIs299() {
        WeaveHall hall = woven(43, 7);
        Due.due("woven(2, 299)", hall.woven(2, 299), 43);
        Due.due("woven(2, 300)", hall.woven(2, 300), 0);
        Due.due("woven(2, 301)", hall.woven(2, 301), 0);
    }

    static void ofManyTheFirst300AreKept() {
        WeaveHall hall = woven(200, 4);
        for (int i = 0; i < 300; i += 13) {
            Due.due("woven(2, " + i + ")", hall.woven(2, i), 1 + i / 4);
        }
        Due.due("woven(2, 299)", hall.woven(2, 299), 75);
        for (int i : new int[] {300, 301, 511, 512, 799, 800}) {
            Due.due("woven(2, " + i + ")", hall.woven(2, i), 0);
        }
    }

    static void otherKindsHaveNone() {
        for (int kind = 0; kind < 14; kind++) {
            WeaveHall hall = Nets.around(kind);
            hall.feed(kind == 0 ? 0 : 1, 5);
            hall.run(0, 2000, 0);
            Due.due("KIND " + kind, hall.woven(0, 0), kind == 9 ? 5 : 0);
        }
    }

    static void noSuchWeaverHasNone() {
        WeaveHall hall = woven(4, 1);
        Due.due("woven(-1, 0)", hall.woven(-1, 0), 0);
        Due.due("woven(3, 0)", hall.woven(3, 0), 0);
        Due.due("woven(40, 0)", hall.woven(40, 0), 0);
        for (int far : Nets.FAR) {
            Due.due("woven(" + far + ", 0)", hall.woven(far, 0), 0);
        }
    }

    static void weaver39HasOne() {
        WeaveHall hall = Nets.fullOfWeavers();
        hall.run(0, 2000, 0);
        Due.due("woven(39, 0)", hall.woven(39, 0), 19);
        Due.due("woven(40, 0)", hall.woven(40, 0), 0);
    }

    static void theEndsOfTheLongsAreKept() {
        WeaveHall hall = Nets.pair(1, Long.MIN_VALUE, Long.MAX_VALUE);
        hall.run(0, 2000, 0);
        Due.due("woven(1, 0)", hall.woven(1, 0), Long.MIN_VALUE);
        Due.due("woven(1, 1)", hall.woven(1, 1), Long.MAX_VALUE);
    }

    static void behindResetThereIsNone() {
        WeaveHall hall = woven(4, 1);
        hall.reset();
        Due.due("woven(2, 0)", hall.woven(2, 0), 0);
        hall.run(0, 1, 0);
        Due.due("woven(2, 0)", hall.woven(2, 0), 0);
    }

    static void whatWasReadOfAShorterRunIsAll() {
        WeaveHall hall = woven(4, 1);
        hall.reset();
        hall.run(2, 10, 0);
        int cloth = hall.told(2, 5);
        Due.due("woven behind it", hall.woven(2, cloth), 0);
    }

    static void toTellChangesNothing() {
        Twins.changesNothing("woven(3, 0)", Nets::begun, hall -> hall.woven(3, 0));
        Twins.changesNothing("woven(3, 300)", Nets::begun, hall -> hall.woven(3, 300));
        Twins.changesNothing("woven(-1, 0)", Nets::begun, hall -> hall.woven(-1, 0));
    }
}
