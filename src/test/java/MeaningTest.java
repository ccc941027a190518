import java.util.ArrayList;
import java.util.Arrays;
import java.util.List;
import java.util.Random;

/**
 * Nets at random without rings, in all WAYS and cut into runs of any length: each BAND's HISTORY is the one that is
 * reckoned here from the HISTORIES that its writer reads, without turns, WIDTHS or ACTS. Nets with rings: all WAYS
 * agree with one another.
 */
public final class MeaningTest {
    private static final int TOO_LONG = 20000;
    private static int finished = 0;

    /** What goes along a BAND: PATTERNS, then that it ENDED, or FAILED (where, why). */
    private static final class Line {
        final List<Long> all = new ArrayList<>();
        int origin = -1;
        int why = 0;
        int taken = 0;

        boolean empty() {
            return taken >= all.size();
        }

        long take() {
            return all.get(taken++);
        }
    }

    /** One WEAVER's work is over: it ENDS, or FAILS by what it read or by itself. */
    private static final class Over extends RuntimeException {
        private static final long serialVersionUID = 1L;
        final int origin;
        final int why;

        Over(int origin, int why) {
            super(null, null, false, false);
            this.origin = origin;
            this.why = why;
        }
    }

    private static final class Worker {
        int number;
        int kind;
        int a;
        long[] feed = new long[0];
        int[][] steps = new int[0][];
        Line[] ins;
        Line[] outs;
        int[] inBands;
        int[] outBands;
        int reads;
        int writes;
        int origin = -1;
        int why;
        int left = TOO_LONG;

        long read(int port) {
            if (ins[port].empty()) {
                throw new Over(ins[port].origin, ins[port].why);
            }
            reads++;
            return ins[port].take();
        }

        boolean ended(int port) {
            if (!ins[port].empty()) {
                return false;
            }
            if (ins[port].origin >= 0) {
                throw new Over(ins[port].origin, ins[port].why);
            }
            return true;
        }

        void write(int port, long v) {
            spend();
            writes++;
            outs[port].all.add(v);
        }

        void spend() {
            left--;
            if (left < 0) {
                throw new IllegalStateException("too long");
            }
        }

        void work() {
            try {
                switch (kind) {
                    case 4:
                        merge();
                        break;
                    case 11:
                        sort();
                        break;
                    case 13:
                        script();
                        break;
                    default:
                        plain();
                        break;
                }
            } catch (Over over) {
                origin = over.origin;
                why = over.why;
            }
            for (Line out : outs) {
                out.origin = origin;
                out.why = why;
            }
        }

        private void plain() {
            if (kind == 0) {
                for (long v : feed) {
                    write(0, v);
                }
                return;
            }
            if (kind == 3) {
                write(0, a);
            }
            while (true) {
                if (kind == 12 && reads == a) {
                    throw new Over(number, 1);
                }
                long v = read(0);
                switch (kind) {
                    case 1:
                        write(0, v + a);
                        break;
                    case 2:
                        for (int i = 0; i < a; i++) {
                            write(0, v);
                        }
                        break;
                    case 5:
                        write(Math.floorMod(v, a) == 0 ? 0 : 1, v);
                        break;
                    case 6:
                        write(0, v + read(1));
                        break;
                    case 7:
                        write(0, read(v == 0 ? 1 : 2));
                        break;
                    case 8:
                        write(0, v);
                        write(1, v);
                        break;
                    case 9:
                        break;
                    case 10:
                        write(0, reads);
                        break;
                    default:
                        write(0, v);
                        break;
                }
            }
        }

        private void merge() {
            Long one = null;
            Long other = null;
            while (true) {
                if (one == null && !ended(0)) {
                    one = read(0);
                }
                if (other == null && !ended(1)) {
                    other = read(1);
                }
                if (one == null && other == null) {
                    return;
                }
                if (other == null || one != null && one <= other) {
                    write(0, one);
                    one = null;
                } else {
                    write(0, other);
                    other = null;
                }
            }
        }

        private void sort() {
            boolean more = true;
            while (more) {
                List<Long> some = new ArrayList<>();
                while (more && some.size() < a) {
                    more = !ended(0);
                    if (more) {
                        some.add(read(0));
                    }
                }
                some.sort(null);
                for (long v : some) {
                    write(0, v);
                }
            }
        }

        private void script() {
            long[] r = new long[4];
            int quiet = 0;
            int at = 0;
            while (steps.length > 0) {
                spend();
                int[] s = steps[at];
                int to = at + 1;
                quiet = s[0] >= 2 && s[0] <= 5 ? quiet + 1 : 0;
                switch (s[0]) {
                    case 0:
                        r[s[2]] = read(s[1]);
                        break;
                    case 1:
                        write(s[1], r[s[2]]);
                        break;
                    case 2:
                        r[s[1]] = s[2];
                        break;
                    case 3:
                        r[s[1]] += r[s[2]];
                        break;
                    case 4:
                        r[s[1]] = r[s[1]] < r[s[2]] ? 1 : 0;
                        break;
                    case 5:
                        to = r[s[2]] != 0 ? s[1] : to;
                        break;
                    case 6:
                        if (ins[s[1]].empty()) {
                            to = (at + 2) % steps.length;
                        } else {
                            r[s[2]] = read(s[1]);
                        }
                        break;
                    default:
                        throw new Over(number, 2);
                }
                if (quiet == 100) {
                    throw new Over(number, 3);
                }
                at = to < steps.length ? to : 0;
            }
        }
    }

    public static void main(String[] args) {
        Random random = new Random(18);
        for (int net = 0; net < 4000; net++) {
            WeaveHall hall = new WeaveHall();
            List<Worker> workers = weave(hall, random);
            boolean whole = true;
            try {
                workers.forEach(Worker::work);
            } catch (IllegalStateException tooLong) {
                whole = false;
            }
            for (int way = 0; way < 4 && whole; way++) {
                compare(hall, workers, way, random);
                hall.reset();
            }
        }
        Due.due("enough nets were FINISHED", finished > 8000 ? 1 : 0, 1);
        for (int net = 0; net < 2000; net++) {
            compareWays(random);
        }
        Due.end();
    }

    /** WEAVERS in an order in which each reads only of those ahead of it; at last COLLECTS for what is open. */
    private static List<Worker> weave(WeaveHall hall, Random random) {
        List<Worker> workers = new ArrayList<>();
        List<int[]> open = new ArrayList<>();
        List<Line> lines = new ArrayList<>();
        int wanted = 3 + random.nextInt(9);
        while (workers.size() < wanted) {
            int kind = random.nextInt(3) == 0 ? 0 : 1 + random.nextInt(13);
            if (Nets.INS[kind] <= open.size()) {
                addWorker(hall, random, workers, kind, open, lines);
            }
        }
        while (!open.isEmpty()) {
            addWorker(hall, random, workers, 9, open, lines);
        }
        return workers;
    }

    private static void addWorker(WeaveHall hall, Random random, List<Worker> workers, int kind, List<int[]> open,
            List<Line> lines) {
        Worker w = new Worker();
        w.kind = kind;
        w.a = pickA(kind, random);
        w.number = hall.weaver(kind, w.a);
        w.ins = new Line[Nets.INS[kind]];
        w.inBands = new int[Nets.INS[kind]];
        w.outs = new Line[Nets.OUTS[kind]];
        w.outBands = new int[Nets.OUTS[kind]];
        for (int port = 0; port < Nets.INS[kind]; port++) {
            int[] from = open.remove(random.nextInt(open.size()));
            w.inBands[port] = hall.band(from[0], from[1], w.number, port, 1 + random.nextInt(3));
            w.ins[port] = workers.get(from[0]).outs[from[1]];
            workers.get(from[0]).outBands[from[1]] = w.inBands[port];
        }
        for (int port = 0; port < Nets.OUTS[kind]; port++) {
            w.outs[port] = new Line();
            open.add(new int[] {w.number, port});
        }
        if (kind == 0) {
            w.feed = new long[random.nextInt(25)];
            for (int i = 0; i < w.feed.length; i++) {
                w.feed[i] = random.nextInt(11) - 4;
                hall.feed(w.number, w.feed[i]);
            }
        }
        if (kind == 13) {
            w.steps = pickSteps(hall, w.number, random);
        }
        workers.add(w);
    }

    private static int pickA(int kind, Random random) {
        switch (kind) {
            case 2:
                return random.nextInt(5);
            case 5:
                return 1 + random.nextInt(3);
            case 11:
                return 1 + random.nextInt(9);
            case 12:
                return random.nextInt(20);
            default:
                return random.nextInt(9) - 4;
        }
    }

    private static int[][] pickSteps(WeaveHall hall, int number, Random random) {
        int[][] steps = new int[random.nextInt(13)][];
        int[] likely = {0, 0, 0, 1, 1, 1, 2, 3, 4, 5, 6, 6, 6, 7};
        for (int i = 0; i < steps.length; i++) {
            int step = likely[random.nextInt(random.nextInt(3) == 0 ? 14 : 13)];
            int a = step == 5 ? random.nextInt(12) : step >= 2 && step <= 4 ? random.nextInt(4) : random.nextInt(2);
            int b = step == 2 ? random.nextInt(7) - 3 : random.nextInt(4);
            steps[i] = new int[] {step, a, b};
            hall.step(number, step, a, b);
        }
        return steps;
    }

    private static int finish(WeaveHall hall, int way, Random random) {
        int answer = 1;
        for (int calls = 0; calls < 80 && answer == 1; calls++) {
            answer = hall.run(way, calls < 40 ? 1 + random.nextInt(60) : 2000, random.nextInt());
        }
        return answer;
    }

    private static void compare(WeaveHall hall, List<Worker> workers, int way, Random random) {
        if (finish(hall, way, random) != 0) {
            return;
        }
        finished++;
        for (Worker w : workers) {
            for (int port = 0; port < w.outs.length; port++) {
                compareBand(hall, w.outBands[port], w.outs[port]);
            }
            Due.due("read", hall.told(w.number, 3), w.reads);
            Due.due("wrote", hall.told(w.number, 4), w.writes);
            Due.due("is over", hall.told(w.number, 1), w.origin < 0 ? 3 : 4);
            Due.due("where", hall.failure(w.number, 0), w.origin < 0 ? WeaveHall.BAD : w.origin);
            Due.due("why", hall.failure(w.number, 1), w.origin < 0 ? WeaveHall.BAD : w.why);
            for (int i = 0; w.kind == 9 && i < Math.min(300, w.reads); i++) {
                Due.due("woven", hall.woven(w.number, i), w.ins[0].all.get(i));
            }
        }
    }

    private static void compareBand(WeaveHall hall, int band, Line line) {
        long h = 7;
        for (long v : line.all) {
            h = 31 * h + v;
        }
        Due.due("written", hall.bandTold(band, 3), line.all.size());
        Due.due("DIGEST", hall.digest(band), h);
        for (int i = 0; i < Math.min(300, line.all.size()); i++) {
            Due.due("HISTORY", hall.history(band, i), line.all.get(i));
        }
        Due.due("ENDED, FAILED", hall.bandTold(band, 4), line.origin < 0 ? 1 : 2);
    }

    /** Any WEAVERS, joined in any way, rings too. */
    private static void compareWays(Random random) {
        WeaveHall hall = new WeaveHall();
        List<int[]> outs = new ArrayList<>();
        List<int[]> ins = new ArrayList<>();
        int wanted = 2 + random.nextInt(7);
        for (int i = 0; i < wanted; i++) {
            int kind = random.nextInt(14);
            int number = hall.weaver(kind, pickA(kind, random));
            if (kind == 0) {
                for (int k = random.nextInt(20); k > 0; k--) {
                    hall.feed(number, random.nextInt(7) - 3);
                }
            }
            if (kind == 13) {
                pickSteps(hall, number, random);
            }
            for (int port = 0; port < Nets.OUTS[kind]; port++) {
                outs.add(new int[] {number, port});
            }
            for (int port = 0; port < Nets.INS[kind]; port++) {
                ins.add(new int[] {number, port});
            }
        }
        while (ins.size() < outs.size()) {
            ins.add(new int[] {Due.collect(hall), 0});
        }
        while (outs.size() < ins.size()) {
            outs.add(new int[] {Due.source(hall, random.nextInt(3), 0, 1), 0});
        }
        java.util.Collections.shuffle(ins, random);
        for (int i = 0; i < ins.size(); i++) {
            hall.band(outs.get(i)[0], outs.get(i)[1], ins.get(i)[0], ins.get(i)[1], 1 + random.nextInt(3));
        }
        long[] first = null;
        for (int way = 0; way < 4; way++) {
            if (finish(hall, way, random) == 0) {
                long[] now = digests(hall);
                first = first == null ? now : first;
                Due.due("WAYS agree", Arrays.equals(first, now) ? 1 : 0, 1);
            }
            hall.reset();
        }
    }

    private static long[] digests(WeaveHall hall) {
        long[] all = new long[hall.count(1) + hall.count(0) * 3];
        for (int i = 0; i < hall.count(1); i++) {
            all[i] = hall.digest(i);
        }
        for (int i = 0; i < hall.count(0); i++) {
            all[hall.count(1) + 3 * i] = hall.told(i, 1);
            all[hall.count(1) + 3 * i + 1] = hall.told(i, 3);
            all[hall.count(1) + 3 * i + 2] = hall.failure(i, 0);
        }
        return all;
    }
}
