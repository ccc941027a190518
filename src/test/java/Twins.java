import java.util.function.Supplier;
import java.util.function.ToLongFunction;

/**
 * What is refused changes nothing: of two halls made alike one gets the refused call; then both are asked for all
 * that can be told, at once and behind more work. The halls are made anew for every hundred questions, so that none
 * comes to 512 calls.
 */
final class Twins {
    private static final int QUESTIONS_OF_A_HALL = 100;
    private static final int NOW = 0, RUN_ON = 1, RESET_AND_RUN = 2;

    private Twins() {
    }

    static void refused(String call, long want, Supplier<WeaveHall> net, ToLongFunction<WeaveHall> asked) {
        Due.due(call, asked.applyAsLong(net.get()), want);
        changesNothing(call, net, asked);
    }

    /** Also for calls that only tell something. */
    static void changesNothing(String call, Supplier<WeaveHall> net, ToLongFunction<WeaveHall> asked) {
        for (int stage = NOW; stage <= RESET_AND_RUN; stage++) {
            int from = 0;
            int questions = 1;
            while (from < questions) {
                WeaveHall one = net.get();
                WeaveHall twin = net.get();
                asked.applyAsLong(one);
                String behind = "behind " + call + ", stage " + stage;
                Due.due(behind + ", more work", work(one, stage), work(twin, stage));
                int weavers = twin.count(0);
                questions = 10 + 13 * weavers + 12 * twin.count(1);
                int to = Math.min(questions, from + QUESTIONS_OF_A_HALL);
                for (int i = from; i < to; i++) {
                    Due.due(behind + ", question " + i, answer(one, weavers, i), answer(twin, weavers, i));
                }
                from = to;
            }
        }
    }

    private static long work(WeaveHall hall, int stage) {
        long h = 0;
        if (stage == RESET_AND_RUN) {
            h = 31 * hall.reset() + close(hall);
        }
        if (stage != NOW) {
            h = 31 * h + hall.run(0, 9, 0);
            h = 31 * h + hall.run(3, 300, 77);
        }
        return h;
    }

    /** Joins every open PORT, so that the net is WHOLE if there is room. */
    private static long close(WeaveHall hall) {
        int weavers = hall.count(0);
        int source = Due.source(hall, 8, 9);
        int collect = Due.collect(hall);
        long h = 31 * source + collect;
        for (int i = 0; i < weavers; i++) {
            for (int port = 0; port < 3; port++) {
                int in = hall.band(source, 0, i, port, 3);
                source = in < 0 ? source : Due.source(hall, 8, 9);
                int out = port < 2 ? hall.band(i, port, collect, 0, 3) : 0;
                collect = out < 0 || port == 2 ? collect : Due.collect(hall);
                h = 31 * (31 * h + in) + out;
            }
        }
        return 31 * h + hall.band(source, 0, collect, 0, 3);
    }

    private static long answer(WeaveHall hall, int weavers, int question) {
        if (question < 7) {
            return hall.count(question);
        }
        if (question < 10) {
            return hall.widened(question - 7);
        }
        int ofWeaver = question - 10;
        if (ofWeaver < 13 * weavers) {
            return answerOfWeaver(hall, ofWeaver / 13, ofWeaver % 13);
        }
        int ofBand = ofWeaver - 13 * weavers;
        return answerOfBand(hall, ofBand / 12, ofBand % 12);
    }

    private static long answerOfWeaver(WeaveHall hall, int weaver, int question) {
        if (question < 6) {
            return hall.told(weaver, question);
        }
        if (question < 8) {
            return hall.failure(weaver, question - 6);
        }
        return question == 8 ? hall.balance(weaver) : hall.woven(weaver, question - 9);
    }

    private static long answerOfBand(WeaveHall hall, int band, int question) {
        if (question < 8) {
            return hall.bandTold(band, question);
        }
        return question == 8 ? hall.digest(band) : hall.history(band, question - 9);
    }
}
