/** SCRIPTS (Terms 1): STEPS, registers, TRY, FAIL, a hundred STEPS without an ACT. */
public final class ScriptTest {
    private static final int READ = 0, WRITE = 1, LET = 2, ADD = 3, LESS = 4, GO = 5, TRY = 6, FAIL = 7;

    public static void main(String[] args) {
        adds();
        lessAndGo();
        trying();
        tryAsLastStep();
        tryOfFailed();
        failing();
        quietSteps();
        quietStepsAreCountedAnew();
        goesNowhere();
        noSteps();
        waits();
        restarts();
        Due.end();
    }

    /** SCRIPT 2 between SOURCES 0, 1 and COLLECTS 3, 4. */
    private static WeaveHall hall(long[] one, long[] other, int... steps) {
        WeaveHall hall = new WeaveHall();
        Due.source(hall, one);
        Due.source(hall, other);
        Due.script(hall, steps);
        Due.collect(hall);
        Due.collect(hall);
        hall.band(0, 0, 2, 0, 1);
        hall.band(1, 0, 2, 1, 2);
        hall.band(2, 0, 3, 0, 1);
        hall.band(2, 1, 4, 0, 2);
        return hall;
    }

    private static void finish(String name, WeaveHall hall, int doing, long[] first, long[] second) {
        for (int way = 0; way < 4; way++) {
            hall.reset();
            Due.due(name + " run", hall.run(way, 2000, 11), 0);
            Due.due(name + " SCRIPT", hall.told(2, 1), doing);
            Due.dueAll(name + " PORT 0", Due.cloth(hall, 3), first);
            Due.dueAll(name + " PORT 1", Due.cloth(hall, 4), second);
        }
    }

    private static long[] row(long... v) {
        return v;
    }

    private static void adds() {
        finish("running sum", hall(row(1, 2, 3), row(), READ, 0, 1, ADD, 0, 1, WRITE, 1, 0), 3, row(), row(1, 3, 6));
        finish("twice, and a number", hall(row(5, Long.MAX_VALUE), row(),
            READ, 0, 3, ADD, 3, 3, LET, 2, -4, ADD, 3, 2, WRITE, 0, 3), 3, row(6, -6), row());
        // READ of both: END at the first that has ENDED
        finish("both", hall(row(1, 2), row(7), READ, 0, 0, READ, 1, 1, WRITE, 0, 1, WRITE, 1, 0), 3, row(7), row(1));
    }

    private static void lessAndGo() {
        // to PORT 0 what is below 10, else to PORT 1
        int[] steps = {READ, 0, 0, LET, 1, 10, LET, 2, 0, ADD, 2, 0, LESS, 2, 1, GO, 9, 2, WRITE, 1, 0, LET, 3, 1,
            GO, 0, 3, WRITE, 0, 0};
        finish("sieve", hall(row(9, 10, 11, -5), row(), steps), 3, row(9, -5), row(10, 11));
        finish("LESS of like ones", hall(row(3), row(3), READ, 0, 0, READ, 1, 1, LESS, 0, 1, WRITE, 0, 0), 3,
            row(0), row());
        finish("LESS of more", hall(row(4), row(3), READ, 0, 0, READ, 1, 1, LESS, 0, 1, WRITE, 0, 0), 3,
            row(0), row());
        finish("LESS of less", hall(row(2), row(3), READ, 0, 0, READ, 1, 1, LESS, 0, 1, WRITE, 0, 0), 3,
            row(1), row());
        // GO by a register that is below 0, too
        finish("GO by -1", hall(row(1, 2), row(), READ, 0, 1, LET, 0, -1, GO, 4, 0, FAIL, 0, 0, WRITE, 0, 1), 3,
            row(1, 2), row());
        finish("no GO by 0", hall(row(1, 2), row(), READ, 0, 1, GO, 3, 0, WRITE, 0, 1, WRITE, 1, 1), 3,
            row(1, 2), row(1, 2));
    }

    /** A TRY of what has ENDED passes one STEP over, keeps its register, and may be done again and again. */
    private static void trying() {
        finish("all of PORT 0, then all of PORT 1", hall(row(1, 2), row(7, 8, 9),
            TRY, 0, 1, WRITE, 0, 1, READ, 1, 2, WRITE, 1, 2), 3, row(1, 2), row(7, 8, 9));
        finish("its register stays", hall(row(4), row(7, 8),
            TRY, 0, 1, LET, 3, 0, READ, 1, 2, WRITE, 0, 1), 3, row(4, 4), row());
        WeaveHall hall = hall(row(), row(), TRY, 0, 0, WRITE, 0, 0);
        Due.due("TRY for ever", hall.run(0, 2000, 0), 1);
        Due.due("it can go on", hall.told(2, 1), 0);
        Due.due("read", hall.told(2, 3), 0);
        Due.due("wrote", hall.told(2, 4), 0);
        Due.due("ACTS", hall.count(2), 2000);
    }

    /** Behind the last STEP comes STEP 0: that is the one which a TRY as last STEP passes over. */
    private static void tryAsLastStep() {
        finish("TRY last", hall(row(5, 6), row(1), WRITE, 1, 0, READ, 0, 0, TRY, 1, 1), 3, row(), row(0, 5));
        finish("TRY last, again and again", hall(row(5, 6, 7), row(), WRITE, 1, 0, READ, 0, 0, WRITE, 0, 0, TRY, 1, 1),
            3, row(5, 6, 7), row(0));
        finish("a quiet STEP 0", hall(row(5, 6, 7), row(1), LET, 2, 1, READ, 0, 0, ADD, 3, 2, WRITE, 0, 3, LET, 2, 0,
            TRY, 1, 1), 3, row(1, 2, 2), row());
        int[] goFirst = {GO, 3, 0, READ, 0, 0, GO, 4, 0, FAIL, 0, 0, TRY, 1, 1};
        finish("GO as STEP 0 is passed over", hall(row(5, 6), row(), goFirst), 3, row(), row());
        finish("GO as STEP 0 is done", hall(row(5, 6), row(1), goFirst), 4, row(), row());
        finish("TRY last but one", hall(row(5, 6), row(), READ, 0, 0, WRITE, 0, 0, TRY, 1, 1, FAIL, 0, 0), 3,
            row(5, 6), row());
        finish("TRY last but one reads", hall(row(5, 6), row(1), READ, 0, 0, WRITE, 0, 0, TRY, 1, 1, FAIL, 0, 0), 4,
            row(5), row());
        tryAsOnlyStep();
        tryOfFailedAsLastStep();
    }

    /** The next STEP of a TRY that is alone is that TRY, and so is the one behind. */
    private static void tryAsOnlyStep() {
        WeaveHall hall = hall(row(5, 6), row(), TRY, 0, 0);
        Due.due("TRY alone", hall.run(2, 2000, 0), 1);
        Due.due("it can go on", hall.told(2, 1), 0);
        Due.due("read", hall.told(2, 3), 2);
        Due.due("wrote", hall.told(2, 4), 0);
    }

    private static void tryOfFailedAsLastStep() {
        WeaveHall hall = new WeaveHall();
        Due.source(hall, 1, 2, 3);
        hall.weaver(12, 2);
        Due.script(hall, WRITE, 1, 0, READ, 1, 1, TRY, 0, 0);
        Due.source(hall, 7, 8, 9, 10);
        Due.collect(hall);
        Due.collect(hall);
        hall.band(0, 0, 1, 0, 1);
        hall.band(1, 0, 2, 0, 1);
        hall.band(3, 0, 2, 1, 1);
        hall.band(2, 0, 4, 0, 1);
        hall.band(2, 1, 5, 0, 1);
        Due.due("run", hall.run(1, 2000, 0), 0);
        Due.due("ENDED", hall.told(2, 1), 3);
        Due.due("read", hall.told(2, 3), 6);
        Due.dueAll("CLOTH", Due.cloth(hall, 5), 0, 1, 2);
    }

    private static void tryOfFailed() {
        WeaveHall hall = new WeaveHall();
        Due.source(hall, 1, 2, 3);
        hall.weaver(12, 2);
        Due.script(hall, TRY, 0, 0, GO, 3, 0, FAIL, 0, 0, WRITE, 1, 0, LET, 0, 0);
        Due.source(hall);
        Due.collect(hall);
        Due.collect(hall);
        hall.band(0, 0, 1, 0, 1);
        hall.band(1, 0, 2, 0, 1);
        hall.band(3, 0, 2, 1, 1);
        hall.band(2, 0, 4, 0, 1);
        hall.band(2, 1, 5, 0, 1);
        Due.due("run", hall.run(0, 2000, 0), 0);
        Due.dueAll("CLOTH", Due.cloth(hall, 5), 1, 2);
        // it has passed GO over, and FAILS by its own STEP
        Due.due("FAILED", hall.told(2, 1), 4);
        Due.due("where", hall.failure(2, 0), 2);
        Due.due("why", hall.failure(2, 1), 2);
        Due.due("TEAR: where", hall.failure(1, 0), 1);
        Due.due("TEAR: why", hall.failure(1, 1), 1);
        Due.due("COLLECT: where", hall.failure(4, 0), 2);
        Due.due("COLLECT: why", hall.failure(5, 1), 2);
        Due.due("failure(2, 2)", hall.failure(2, 2), WeaveHall.BAD);
        Due.due("failure(2, -1)", hall.failure(2, -1), WeaveHall.BAD);
        Due.due("failure(-1, 0)", hall.failure(-1, 0), WeaveHall.BAD);
        Due.due("failure(6, 0)", hall.failure(6, 0), WeaveHall.BAD);
        Due.due("SOURCE", hall.failure(0, 1), WeaveHall.BAD);
        hall.reset();
        Due.due("behind reset", hall.failure(2, 0), WeaveHall.BAD);
    }

    private static void failing() {
        finish("FAIL behind a WRITE", hall(row(5, 6), row(), READ, 0, 0, WRITE, 1, 0, FAIL, 0, 0), 4, row(), row(5));
        WeaveHall hall = hall(row(), row(), FAIL, 0, 0);
        Due.due("run", hall.run(0, 2000, 0), 0);
        // two SOURCES END, the SCRIPT FAILS, two COLLECTS FAIL in one ACT each
        Due.due("ACTS", hall.count(2), 5);
        Due.due("why", hall.failure(2, 1), 2);
    }

    /** n quiet STEPS, then WRITE (or FAIL): with 100 of them it FAILS, with 99 it does not. */
    private static WeaveHall quiet(int rounds, int more, int last) {
        int[] steps = new int[36];
        int at = 0;
        int[][] loop = {{LET, 1, -rounds}, {LET, 2, 1}, {ADD, 1, 2}, {GO, 2, 1}};
        for (int[] s : loop) {
            steps[at] = s[0];
            steps[at + 1] = s[1];
            steps[at + 2] = s[2];
            at += 3;
        }
        for (int i = 0; i < more; i++) {
            steps[at] = LET;
            at += 3;
        }
        steps[at] = last;
        steps[at + 3] = READ;
        return hall(row(), row(), java.util.Arrays.copyOf(steps, at + 6));
    }

    private static void quietSteps() {
        // 2 + 2 * 48 = 98 quiet STEPS, and as many more
        WeaveHall fewer = quiet(48, 1, WRITE);
        Due.due("99: run", fewer.run(0, 2000, 0), 0);
        Due.due("99: ENDED", fewer.told(2, 1), 3);
        Due.due("99: wrote", fewer.told(2, 4), 1);
        WeaveHall just = quiet(48, 2, WRITE);
        Due.due("100: run", just.run(0, 2000, 0), 0);
        Due.due("100: FAILED", just.told(2, 1), 4);
        Due.due("100: wrote", just.told(2, 4), 0);
        Due.due("100: where", just.failure(2, 0), 2);
        Due.due("100: why", just.failure(2, 1), 3);
        Due.due("100: ACTS", just.count(2), 5);
        WeaveHall fails = quiet(48, 1, FAIL);
        fails.run(0, 2000, 0);
        Due.due("99 and FAIL: why", fails.failure(2, 1), 2);
        WeaveHall late = quiet(48, 2, FAIL);
        late.run(0, 2000, 0);
        Due.due("100 and FAIL: why", late.failure(2, 1), 3);
    }

    /** Ninety quiet STEPS, an ACT, ninety more: each ACT begins the count anew. */
    private static void quietStepsAreCountedAnew() {
        int[] steps = {LET, 1, -44, LET, 2, 1, ADD, 1, 2, GO, 2, 1, WRITE, 0, 1, READ, 0, 0};
        finish("anew", hall(row(1, 2, 3), row(), steps), 3, row(0, 0, 0, 0), row());
    }

    /** GO to a STEP that is not there: STEP 0. */
    private static void goesNowhere() {
        finish("GO to STEP 11 of 4", hall(row(1, 2), row(), READ, 0, 0, WRITE, 1, 0, GO, 11, 0, FAIL, 0, 0), 3,
            row(), row(1, 2));
        finish("GO to STEP 4 of 4", hall(row(1, 2), row(), READ, 0, 0, WRITE, 1, 0, GO, 4, 0, FAIL, 0, 0), 3,
            row(), row(1, 2));
        finish("GO to STEP 3 of 4", hall(row(1, 2), row(), READ, 0, 0, WRITE, 1, 0, GO, 3, 0, FAIL, 0, 0), 4,
            row(), row(1));
    }

    private static void noSteps() {
        WeaveHall hall = hall(row(1), row());
        Due.due("run", hall.run(0, 2000, 0), 0);
        Due.due("ENDED", hall.told(2, 1), 3);
        Due.due("SOURCE wrote", hall.told(0, 4), 1);
        Due.due("ACTS", hall.count(2), 2 + 1 + 1 + 4);
    }

    /** Quiet STEPS are no ACT: what it does is told by the ACT behind them. */
    private static void waits() {
        WeaveHall hall = hall(row(1, 2, 3, 4), row(), LET, 0, 3, WRITE, 1, 0, ADD, 0, 0, READ, 0, 1, LET, 2, 9);
        Due.due("run", hall.run(2, 1, 0), 1);
        Due.due("can write", hall.told(2, 1), 0);
        Due.due("no PORT", hall.told(2, 2), WeaveHall.NONE);
        hall.reset();
        hall = new WeaveHall();
        Due.script(hall, LET, 0, 3, READ, 1, 0);
        hall.band(0, 0, 0, 0, 1);
        hall.band(0, 1, 0, 1, 1);
        Due.due("run", hall.run(0, 5, 0), 0);
        Due.due("WAITS to read", hall.told(0, 1), 1);
        Due.due("at PORT 1", hall.told(0, 2), 1);
        Due.due("ACTS", hall.count(2), 0);
        hall.clear();
        Due.script(hall, LET, 0, 3, WRITE, 1, 0, ADD, 0, 0);
        hall.band(0, 0, 0, 0, 1);
        hall.band(0, 1, 0, 1, 2);
        Due.due("run", hall.run(0, 2, 0), 1);
        Due.due("WAITS to write", hall.told(0, 1), 2);
        Due.due("at PORT 1", hall.told(0, 2), 1);
        Due.due("TRY WAITS too", waitsByTry(), 1);
    }

    private static int waitsByTry() {
        WeaveHall hall = new WeaveHall();
        Due.script(hall, TRY, 0, 0, WRITE, 1, 0);
        hall.band(0, 0, 0, 0, 1);
        hall.band(0, 1, 0, 1, 1);
        hall.run(0, 5, 0);
        return hall.told(0, 1);
    }

    /** Registers are 0 at first, and again behind reset(). */
    private static void restarts() {
        WeaveHall hall = hall(row(1, 2, 3), row(), WRITE, 1, 3, READ, 0, 1, ADD, 3, 1);
        for (int i = 0; i < 3; i++) {
            hall.run(0, i == 1 ? 9 : 2000, 0);
            if (i != 1) {
                Due.dueAll("sums", Due.cloth(hall, 4), 0, 1, 3, 6);
            }
            hall.reset();
        }
    }
}
