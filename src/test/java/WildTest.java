import java.util.Random;

/** Calls at random, wrong ones among them: none throws, and what is refused changes nothing that is told. */
public final class WildTest {
    private static final int[] EDGES = {Integer.MIN_VALUE, -2, -1, 0, 1, 2, 3, 11, 12, 13, 14, 39, 40, 50, 51, 59, 60,
        200, 299, 300, 1000, 2000, 2001, Integer.MAX_VALUE};

    public static void main(String[] args) {
        Random random = new Random(20261116);
        for (int object = 0; object < 1500; object++) {
            WeaveHall hall = new WeaveHall();
            for (int call = 0; call < 511; call++) {
                boolean looks = random.nextInt(20) == 0;
                long before = looks ? allTold(hall) : 0;
                long answer = anyCall(hall, random);
                if (looks && answer < 0) {
                    Due.due("what is told behind a refusal", allTold(hall), before);
                }
            }
        }
        Due.end();
    }

    private static int any(Random random, int most) {
        return random.nextInt(12) == 0 ? EDGES[random.nextInt(EDGES.length)] : random.nextInt(most);
    }

    private static long anyCall(WeaveHall hall, Random random) {
        int weavers = Math.max(1, hall.count(0));
        switch (random.nextInt(22)) {
            case 0:
            case 1:
                return hall.weaver(any(random, 14), any(random, 32));
            case 2:
                return hall.feed(any(random, weavers), random.nextInt(9) - 4);
            case 3:
            case 4:
                return hall.step(any(random, weavers), any(random, 8), any(random, 4), any(random, 4));
            case 5:
            case 6:
            case 7:
                return hall.band(any(random, weavers), any(random, 2), any(random, weavers), any(random, 3),
                    1 + any(random, 4));
            case 8:
                return hall.width(any(random, 60), any(random, 50));
            case 9:
                return random.nextInt(40) == 0 ? hall.clear() : closeAll(hall);
            case 10:
            case 11:
                return hall.run(any(random, 4), any(random, 300), random.nextInt());
            case 12:
                return hall.reset();
            case 13:
                return hall.told(any(random, weavers), any(random, 6));
            case 14:
                hall.woven(any(random, weavers), any(random, 300));
                return 0;
            case 15:
                return hall.bandTold(any(random, 60), any(random, 8));
            case 16:
                hall.history(any(random, 60), any(random, 300));
                return 0;
            case 17:
                hall.digest(any(random, 60));
                return 0;
            case 18:
                return hall.widened(any(random, 100));
            case 19:
                return hall.failure(any(random, weavers), any(random, 2));
            case 20:
                return hall.balance(any(random, weavers));
            default:
                return hall.count(any(random, 7));
        }
    }

    /** Joins what PORTS it can, so that many nets become WHOLE and run. */
    private static int closeAll(WeaveHall hall) {
        int weavers = hall.count(0);
        for (int from = 0; from < weavers; from++) {
            for (int out = 0; out < 2; out++) {
                for (int to = 0; to < 3 * weavers; to++) {
                    if (hall.band(from, out, to / 3, to % 3, 1) >= 0) {
                        break;
                    }
                }
            }
        }
        return 0;
    }

    private static long allTold(WeaveHall hall) {
        long h = 1;
        for (int what = 0; what < 7; what++) {
            h = 31 * h + hall.count(what);
        }
        for (int i = 0; i < hall.count(0); i++) {
            for (int what = 0; what < 6; what++) {
                h = 31 * h + hall.told(i, what);
            }
            h = 31 * h + hall.woven(i, 0) + 7 * hall.failure(i, 0) + 11 * hall.failure(i, 1) + 13 * hall.balance(i);
        }
        for (int i = 0; i < hall.count(1); i++) {
            for (int what = 0; what < 8; what++) {
                h = 31 * h + hall.bandTold(i, what);
            }
            h = 31 * h + hall.digest(i) + 7 * hall.history(i, 0);
        }
        for (int i = 0; i < 100; i++) {
            h = 31 * h + hall.widened(i);
        }
        return h;
    }
}
