/** Promise 4, step: of a SCRIPT alone, the bounds of step, a and b, 12 at most; GO to a STEP that is not there. */
public final class Promise04StepTest {
    private static final int READ = 0, WRITE = 1, LET = 2, ADD = 3, LESS = 4, GO = 5, TRY = 6, FAIL = 7;
    private static final int MIN = Integer.MIN_VALUE, MAX = Integer.MAX_VALUE;

    public static void main(String[] args) {
        Due.cases(Promise04StepTest.class);
    }

    private static void bad(int step, int a, int b) {
        Twins.refused("step(2, " + step + ", " + a + ", " + b + ")", WeaveHall.BAD, Nets::small,
            hall -> hall.step(2, step, a, b));
    }

    private static void taken(int step, int a, int b) {
        WeaveHall hall = Nets.alone(13);
        Due.due("step(0, " + step + ", " + a + ", " + b + ")", hall.step(0, step, a, b), 1);
        Due.due("STEPS", hall.told(0, 5), 1);
    }

    private static void takesA(int step, int least, int most) {
        bad(step, MIN, 0);
        bad(step, least - 1, 0);
        taken(step, least, 0);
        taken(step, most, 0);
        bad(step, most + 1, 0);
        bad(step, MAX, 0);
    }

    private static void takesB(int step, int least, int most) {
        bad(step, 0, MIN);
        bad(step, 0, least - 1);
        taken(step, 0, least);
        taken(step, 0, most);
        bad(step, 0, most + 1);
        bad(step, 0, MAX);
    }

    static void stepBelow0IsBad() {
        bad(-1, 0, 0);
        bad(MIN, 0, 0);
    }

    static void steps0To7AreTaken() {
        for (int step = 0; step < 8; step++) {
            taken(step, 0, 0);
        }
    }

    static void stepAbove7IsBad() {
        bad(8, 0, 0);
        bad(MAX, 0, 0);
    }

    static void readTakesPorts0And1() {
        takesA(READ, 0, 1);
    }

    static void readTakesRegisters0To3() {
        takesB(READ, 0, 3);
    }

    static void writeTakesPorts0And1() {
        takesA(WRITE, 0, 1);
    }

    static void writeTakesRegisters0To3() {
        takesB(WRITE, 0, 3);
    }

    static void letTakesRegisters0To3() {
        takesA(LET, 0, 3);
    }

    static void letTakesEveryNumber() {
        taken(LET, 0, MIN);
        taken(LET, 0, -1);
        taken(LET, 3, 4);
        taken(LET, 3, MAX);
    }

    static void addTakesRegisters0To3() {
        takesA(ADD, 0, 3);
        takesB(ADD, 0, 3);
    }

    static void lessTakesRegisters0To3() {
        takesA(LESS, 0, 3);
        takesB(LESS, 0, 3);
    }

    static void goTakesSteps0To11() {
        takesA(GO, 0, 11);
    }

    static void goTakesRegisters0To3() {
        takesB(GO, 0, 3);
    }

    static void tryTakesPorts0And1() {
        takesA(TRY, 0, 1);
    }

    static void tryTakesRegisters0To3() {
        takesB(TRY, 0, 3);
    }

    static void failTakesEveryNumber() {
        taken(FAIL, MIN, MIN);
        taken(FAIL, -1, -1);
        taken(FAIL, 12, 4);
        taken(FAIL, MAX, MAX);
    }

    static void weaverBelow0IsBad() {
        Twins.refused("step(-1, 7, 0, 0)", WeaveHall.BAD, Nets::small, hall -> hall.step(-1, 7, 0, 0));
    }

    static void weaverBehindTheLastIsBad() {
        Twins.refused("step(5, 7, 0, 0)", WeaveHall.BAD, Nets::small, hall -> hall.step(5, 7, 0, 0));
    }

    static void weaverFarAwayIsBad() {
        for (int far : Nets.FAR) {
            Twins.refused("step(" + far + ", 7, 0, 0)", WeaveHall.BAD, Nets::small, hall -> hall.step(far, 7, 0, 0));
        }
    }

    static void everyOtherKindIsBad() {
        for (int kind = 0; kind < 13; kind++) {
            int one = kind;
            Twins.refused("step of KIND " + kind, WeaveHall.BAD, () -> Nets.alone(one),
                hall -> hall.step(0, 7, 0, 0));
        }
    }

    static void weaver39HasSteps() {
        WeaveHall hall = Nets.scripts(0);
        Due.due("step(39, 7, 0, 0)", hall.step(39, 7, 0, 0), 1);
        Due.due("STEPS of 38", hall.told(38, 5), 0);
    }

    /** So many READS of PORT 0 into register 0, then what is told. */
    private static WeaveHall readsAnd(int reads, int... last) {
        int[] steps = new int[3 * reads + last.length];
        System.arraycopy(last, 0, steps, 3 * reads, last.length);
        return Nets.scripted(Nets.upFrom(1, 40), steps);
    }

    static void the12thIsTheLast() {
        WeaveHall hall = readsAnd(11);
        Due.due("the 12th", hall.step(2, WRITE, 0, 0), 12);
        Due.due("the 13th", hall.step(2, FAIL, 0, 0), WeaveHall.FULL);
        Due.due("STEPS", hall.told(2, 5), 12);
    }

    static void fullChangesNothing() {
        Twins.refused("step(2, 7, 0, 0)", WeaveHall.FULL, () -> readsAnd(11, WRITE, 0, 0),
            hall -> hall.step(2, FAIL, 0, 0));
    }

    static void all12AreDoneThenStep0Again() {
        WeaveHall hall = readsAnd(11, WRITE, 0, 0);
        hall.step(2, FAIL, 0, 0);
        Due.due("FINISHED", hall.run(0, 2000, 0), 0);
        Due.dueAll("each 11th", Due.cloth(hall, 3), 11, 22, 33);
        Due.due("ENDED", hall.told(2, 1), 3);
    }

    static void eachScriptHas12OfItsOwn() {
        WeaveHall hall = new WeaveHall();
        Due.script(hall, new int[36]);
        Due.script(hall, new int[36]);
        Due.due("STEPS of the first", hall.told(0, 5), 12);
        Due.due("STEPS of the second", hall.told(1, 5), 12);
        Due.due("the 13th", hall.step(1, 0, 0, 0), WeaveHall.FULL);
    }

    static void notInARun() {
        Twins.refused("step(2, 7, 0, 0)", WeaveHall.NOT, Nets::begun, hall -> hall.step(2, 7, 0, 0));
    }

    static void behindResetItIsTaken() {
        WeaveHall hall = Nets.begun();
        hall.reset();
        Due.due("step(2, 7, 0, 0)", hall.step(2, FAIL, 0, 0), 5);
        hall.run(0, 2000, 0);
        Due.due("FAILED", hall.failure(2, 1), 2);
    }

    static void badIsAheadOfNot() {
        Twins.refused("step(2, 8, 0, 0)", WeaveHall.BAD, Nets::begun, hall -> hall.step(2, 8, 0, 0));
        Twins.refused("step(2, 0, 2, 0)", WeaveHall.BAD, Nets::begun, hall -> hall.step(2, 0, 2, 0));
        Twins.refused("step(2, 0, 0, 4)", WeaveHall.BAD, Nets::begun, hall -> hall.step(2, 0, 0, 4));
        Twins.refused("step(0, 7, 0, 0)", WeaveHall.BAD, Nets::begun, hall -> hall.step(0, 7, 0, 0));
        Twins.refused("step(5, 7, 0, 0)", WeaveHall.BAD, Nets::begun, hall -> hall.step(5, 7, 0, 0));
    }

    static void badIsAheadOfFull() {
        WeaveHall hall = readsAnd(12);
        Due.due("step(2, 8, 0, 0)", hall.step(2, 8, 0, 0), WeaveHall.BAD);
        Due.due("step(2, 5, 12, 0)", hall.step(2, GO, 12, 0), WeaveHall.BAD);
        Due.due("step(2, 5, 0, 4)", hall.step(2, GO, 0, 4), WeaveHall.BAD);
    }

    private static WeaveHall fullInARun() {
        WeaveHall hall = readsAnd(11, WRITE, 0, 0);
        hall.run(0, 3, 0);
        return hall;
    }

    static void notIsAheadOfFull() {
        Twins.refused("step(2, 7, 0, 0)", WeaveHall.NOT, Promise04StepTest::fullInARun,
            hall -> hall.step(2, FAIL, 0, 0));
    }

    static void clearEmptiesThem() {
        WeaveHall hall = readsAnd(12);
        hall.clear();
        hall.weaver(13, 0);
        hall.weaver(13, 0);
        hall.weaver(13, 0);
        Due.due("STEPS", hall.told(2, 5), 0);
        Due.due("step(2, 7, 0, 0)", hall.step(2, FAIL, 0, 0), 1);
    }

    private static void weaves(WeaveHall hall, int doing, long... want) {
        Due.due("FINISHED", hall.run(0, 2000, 0), 0);
        Due.due("what it does", hall.told(2, 1), doing);
        Due.dueAll("CLOTH", Due.cloth(hall, 3), want);
    }

    /** STEP 11 of 12 is there, and writes; all between would FAIL. */
    static void goToStep11Of12() {
        weaves(Nets.scripted(new long[] {7, 8}, READ, 0, 0, GO, 11, 0, FAIL, 0, 0, FAIL, 0, 0, FAIL, 0, 0, FAIL, 0, 0,
            FAIL, 0, 0, FAIL, 0, 0, FAIL, 0, 0, FAIL, 0, 0, FAIL, 0, 0, WRITE, 0, 0), 3, 7, 8);
    }

    static void goToStep11Of11IsStep0() {
        weaves(Nets.scripted(new long[] {7, 8}, READ, 0, 0, WRITE, 0, 0, GO, 11, 0, FAIL, 0, 0, FAIL, 0, 0, FAIL, 0, 0,
            FAIL, 0, 0, FAIL, 0, 0, FAIL, 0, 0, FAIL, 0, 0, FAIL, 0, 0), 3, 7, 8);
    }

    static void goToTheStepBehindTheLastIsStep0() {
        weaves(Nets.scripted(new long[] {7, 8}, READ, 0, 0, WRITE, 0, 0, GO, 4, 0, FAIL, 0, 0), 3, 7, 8);
    }

    static void goToTheLastStepIsDone() {
        weaves(Nets.scripted(new long[] {7, 8}, READ, 0, 0, WRITE, 0, 0, GO, 3, 0, FAIL, 0, 0), 4, 7);
    }

    static void goToItself() {
        WeaveHall hall = Nets.scripted(new long[] {7}, READ, 0, 0, GO, 1, 0);
        weaves(hall, 4);
        Due.due("by 100 STEPS", hall.failure(2, 1), 3);
    }

    static void goBy0GoesOn() {
        weaves(Nets.scripted(new long[] {7, 8}, READ, 0, 0, GO, 3, 1, WRITE, 0, 0, LET, 2, 0), 3, 7, 8);
    }

    static void goByEveryOtherNumber() {
        for (long v : new long[] {Long.MIN_VALUE, -1, 1, 1L << 32, Long.MAX_VALUE}) {
            weaves(Nets.scripted(new long[] {v}, READ, 0, 1, GO, 3, 1, WRITE, 0, 1, LET, 2, 0), 3);
        }
    }

    static void withoutStepsItEnds() {
        WeaveHall hall = Nets.scripted(new long[] {7});
        weaves(hall, 3);
        Due.due("read", hall.told(2, 3), 0);
    }

    static void registersAre0AtFirst() {
        for (int register = 0; register < 4; register++) {
            weaves(Nets.scripted(new long[] {}, WRITE, 0, register, READ, 0, 0), 3, 0);
        }
    }

    static void eachRegisterIsOnesOwn() {
        weaves(Nets.scripted(new long[] {5, 6, 7, 8}, READ, 0, 0, READ, 0, 1, READ, 0, 2, READ, 0, 3, WRITE, 0, 3,
            WRITE, 0, 2, WRITE, 0, 1, WRITE, 0, 0), 3, 8, 7, 6, 5);
    }

    static void letTheLeastAndTheGreatestNumber() {
        weaves(Nets.scripted(new long[] {}, LET, 0, MIN, WRITE, 0, 0, LET, 0, MAX, WRITE, 0, 0, READ, 0, 0), 3,
            MIN, MAX);
    }

    static void addGoesRoundAtBothEnds() {
        weaves(Nets.scripted(new long[] {Long.MAX_VALUE, Long.MIN_VALUE}, READ, 0, 0, LET, 1, 1, ADD, 0, 1, WRITE, 0, 0,
            READ, 0, 0, LET, 1, -1, ADD, 0, 1, WRITE, 0, 0), 3, Long.MIN_VALUE, Long.MAX_VALUE);
    }

    static void addOfARegisterToItself() {
        weaves(Nets.scripted(new long[] {3, Long.MIN_VALUE}, READ, 0, 2, ADD, 2, 2, WRITE, 0, 2), 3, 6, 0);
    }

    static void lessAtTheEndsOfTheLongs() {
        long[] all = {Long.MIN_VALUE, Long.MAX_VALUE, Long.MAX_VALUE, Long.MIN_VALUE, Long.MIN_VALUE, Long.MIN_VALUE,
            -1, 0, 0, -1, 0, 0};
        weaves(Nets.scripted(all, READ, 0, 0, READ, 0, 1, LESS, 0, 1, WRITE, 0, 0), 3, 1, 0, 0, 1, 0, 0);
    }

    static void lessOfARegisterWithItselfIs0() {
        weaves(Nets.scripted(new long[] {5}, READ, 0, 3, LESS, 3, 3, WRITE, 0, 3), 3, 0);
    }

    static void tryPassesTheNextStepOver() {
        weaves(Nets.scripted(new long[] {7}, TRY, 1, 3, FAIL, 0, 0, READ, 0, 0, WRITE, 0, 0), 3, 7);
    }

    static void tryThatReadsPassesNothingOver() {
        weaves(Nets.scripted(new long[] {7, 8}, TRY, 0, 3, WRITE, 0, 3, READ, 0, 0, WRITE, 0, 0, READ, 1, 0), 3, 7, 8);
    }

    /** PORT 1 has ENDED: behind the last STEP it is STEP 0 that is passed over. */
    static void tryAsLastStepPassesStep0Over() {
        weaves(Nets.scripted(new long[] {7, 8}, WRITE, 0, 0, READ, 0, 0, TRY, 1, 3), 3, 0);
    }

    static void tryAsLastStepButOneGoesOnWithStep0() {
        weaves(Nets.scripted(new long[] {7, 8}, READ, 0, 0, WRITE, 0, 0, TRY, 1, 3, FAIL, 0, 0), 3, 7, 8);
    }

    /** Of 12 STEPS the last one is the TRY: STEP 0, which writes, is done but once. */
    static void tryAsStep11PassesStep0Over() {
        weaves(Nets.scripted(new long[] {7, 8}, WRITE, 0, 2, READ, 0, 0, LET, 2, 9, LET, 2, 9, LET, 2, 9, LET, 2, 9,
            LET, 2, 9, LET, 2, 9, LET, 2, 9, LET, 2, 9, LET, 2, 9, TRY, 1, 1), 3, 0);
    }

    static void tryAloneComesToItselfAgain() {
        WeaveHall hall = Nets.scripted(new long[] {7, 8}, TRY, 0, 0);
        Due.due("it goes on", hall.run(0, 2000, 0), 1);
        Due.due("what it does", hall.told(2, 1), 0);
        Due.due("read", hall.told(2, 3), 2);
    }

    static void readThatEndedEndsWhereTryDoesNot() {
        weaves(Nets.scripted(new long[] {7}, READ, 0, 0, WRITE, 0, 0), 3, 7);
    }

    /** LET, LET, rounds of ADD and GO, more LETS: 2 + 2 rounds + more quiet STEPS ahead of the last one. */
    private static WeaveHall quiet(int rounds, int more, int last, int a) {
        int[] steps = {LET, 1, -rounds, LET, 2, 1, ADD, 1, 2, GO, 2, 1, LET, 3, 8, LET, 3, 9, last, a, 3, READ, 0, 0};
        int[] some = new int[18 + 3 * more];
        System.arraycopy(steps, 0, some, 0, 12 + 3 * more);
        System.arraycopy(steps, 18, some, 12 + 3 * more, 6);
        return Nets.scripted(new long[] {}, some);
    }

    static void with99QuietStepsItGoesOn() {
        weaves(quiet(48, 1, WRITE, 0), 3, 8);
    }

    static void with100QuietStepsItFails() {
        WeaveHall hall = quiet(48, 2, WRITE, 0);
        weaves(hall, 4);
        Due.due("where", hall.failure(2, 0), 2);
        Due.due("why", hall.failure(2, 1), 3);
    }

    static void quietStepsEndWithRead() {
        WeaveHall hall = quiet(48, 1, READ, 0);
        weaves(hall, 3);
    }

    static void quietStepsEndWithTry() {
        WeaveHall hall = quiet(48, 1, TRY, 0);
        Due.due("it goes on", hall.run(0, 2000, 0), 1);
        Due.due("what it does", hall.told(2, 1), 0);
    }

    static void failBehind99QuietStepsIsAFail() {
        WeaveHall hall = quiet(48, 1, FAIL, 0);
        weaves(hall, 4);
        Due.due("why", hall.failure(2, 1), 2);
    }

    /** To FAIL by 100 quiet STEPS is one ACT; both SOURCES END, both COLLECTS FAIL. */
    static void toFailBy100QuietStepsIsOneAct() {
        WeaveHall hall = Nets.scripted(new long[] {}, LET, 0, 0);
        Due.due("FINISHED", hall.run(0, 2000, 0), 0);
        Due.due("ACTS", hall.count(2), 5);
    }
}
