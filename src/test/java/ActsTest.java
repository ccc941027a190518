import java.util.ArrayList;
import java.util.List;
import java.util.Random;

/**
 * Nets at random, rings too, ACT by ACT against a second hall that is written here in another way: what a WEAVER does
 * is a plain program that is done anew from its first ACT each time, up to the first ACT that has not been done yet.
 */
public final class ActsTest {
    private static final int READ = 0, WRITE = 1, END = 2, FAIL = 3;
    private static final int MOST_ACTS = 400;
    private static int widenedNets = 0;
    private static int failedNets = 0;
    private static int finishedNets = 0;

    /** The first ACT that has not been done yet. */
    private static final class Next extends RuntimeException {
        private static final long serialVersionUID = 1L;
        final int act;
        final int port;
        final long value;

        Next(int act, int port, long value) {
            super(null, null, false, false);
            this.act = act;
            this.port = port;
            this.value = value;
        }
    }

    private static final class Strip {
        Worker from;
        Worker to;
        int width;
        int widened;
        int most;
        long mark = 7;
        final List<Long> on = new ArrayList<>();
        final List<Long> past = new ArrayList<>();
    }

    private static final class Worker {
        int number;
        int kind;
        int a;
        final List<Long> feed = new ArrayList<>();
        final List<int[]> steps = new ArrayList<>();
        final Strip[] ins = new Strip[3];
        final Strip[] outs = new Strip[2];
        /** What each ACT gave: what was read, or null for a write and for what had ENDED (by TRY: or FAILED). */
        final List<Long> done = new ArrayList<>();
        int cursor;
        Next next;
        int over;
        int where;
        int why;
        int reads;
        int writes;

        Next next() {
            if (next == null) {
                cursor = 0;
                try {
                    program();
                    next = new Next(END, 0, 0);
                } catch (Next found) {
                    next = found;
                }
            }
            return next;
        }

        /** Null where the PORT has ENDED; value tells whether it is by TRY. */
        private Long take(int port, boolean byTry) {
            if (cursor == done.size()) {
                throw new Next(READ, port, byTry ? 1 : 0);
            }
            return done.get(cursor++);
        }

        private long read(int port) {
            Long v = take(port, false);
            if (v == null) {
                throw new Next(END, 0, 0);
            }
            return v;
        }

        private void write(int port, long v) {
            if (cursor == done.size()) {
                throw new Next(WRITE, port, v);
            }
            cursor++;
        }

        private void program() {
            switch (kind) {
                case 0:
                    feed.forEach(v -> write(0, v));
                    break;
                case 4:
                    merge();
                    break;
                case 11:
                    sort();
                    break;
                case 13:
                    script();
                    break;
                default:
                    again();
                    break;
            }
        }

        private void again() {
            if (kind == 3) {
                write(0, a);
            }
            for (int round = 0; round < MOST_ACTS; round++) {
                if (kind == 12 && round == a) {
                    throw new Next(FAIL, 0, 1);
                }
                long v = read(0);
                if (kind == 1) {
                    write(0, v + a);
                } else if (kind == 2) {
                    for (int i = 0; i < a; i++) {
                        write(0, v);
                    }
                } else if (kind == 3 || kind == 12) {
                    write(0, v);
                } else if (kind == 5) {
                    write(v / a * a == v ? 0 : 1, v);
                } else if (kind == 6) {
                    write(0, v + read(1));
                } else if (kind == 7) {
                    write(0, read(v == 0 ? 1 : 2));
                } else if (kind == 8) {
                    write(0, v);
                    write(1, v);
                } else if (kind == 10) {
                    write(0, round + 1);
                }
            }
            throw new IllegalStateException("too many rounds");
        }

        private void merge() {
            Long[] held = new Long[2];
            boolean[] ended = new boolean[2];
            while (true) {
                for (int port = 0; port < 2; port++) {
                    if (!ended[port] && held[port] == null) {
                        held[port] = take(port, false);
                        ended[port] = held[port] == null;
                    }
                }
                if (held[0] == null && held[1] == null) {
                    return;
                }
                int least = held[1] == null || held[0] != null && held[0] <= held[1] ? 0 : 1;
                write(0, held[least]);
                held[least] = null;
            }
        }

        private void sort() {
            boolean ended = false;
            while (!ended) {
                List<Long> some = new ArrayList<>();
                while (!ended && some.size() < a) {
                    Long v = take(0, false);
                    ended = v == null;
                    if (!ended) {
                        some.add(v);
                    }
                }
                some.sort(null);
                some.forEach(v -> write(0, v));
            }
        }

        private void script() {
            long[] r = new long[4];
            int at = 0;
            int quiet = 0;
            while (!steps.isEmpty()) {
                int[] s = steps.get(at);
                at = (at + 1) % steps.size();
                quiet = s[0] < 2 || s[0] > 5 ? 0 : quiet + 1;
                if (s[0] == 0) {
                    r[s[2]] = read(s[1]);
                } else if (s[0] == 1) {
                    write(s[1], r[s[2]]);
                } else if (s[0] == 2) {
                    r[s[1]] = s[2];
                } else if (s[0] == 3) {
                    r[s[1]] += r[s[2]];
                } else if (s[0] == 4) {
                    r[s[1]] = r[s[1]] < r[s[2]] ? 1 : 0;
                } else if (s[0] == 5 && r[s[2]] != 0) {
                    at = s[1] < steps.size() ? s[1] : 0;
                } else if (s[0] == 6) {
                    Long v = take(s[1], true);
                    at = v == null ? (at + 1) % steps.size() : at;
                    r[s[2]] = v == null ? r[s[2]] : v;
                } else if (s[0] == 7) {
                    throw new Next(FAIL, 0, 2);
                }
                if (quiet == 100) {
                    throw new Next(FAIL, 0, 3);
                }
            }
        }

        /** 0 can go on, 1 WAITS to read, 2 WAITS to write, 3 ENDED, 4 FAILED. */
        int does() {
            if (over != 0) {
                return over;
            }
            Next n = next();
            if (n.act == READ && ins[n.port].on.isEmpty() && ins[n.port].from.over == 0) {
                return 1;
            }
            boolean full = n.act == WRITE && outs[n.port].on.size() >= outs[n.port].width;
            return full && outs[n.port].to.over == 0 ? 2 : 0;
        }

        void act() {
            Next n = next();
            next = null;
            if (n.act == END) {
                over = 3;
            } else if (n.act == FAIL) {
                over = 4;
                where = number;
                why = (int) n.value;
            } else if (n.act == WRITE) {
                put(outs[n.port], n.value);
            } else if (!ins[n.port].on.isEmpty()) {
                reads++;
                done.add(ins[n.port].on.remove(0));
            } else if (ins[n.port].from.over == 4 && n.value == 0) {
                over = 4;
                where = ins[n.port].from.where;
                why = ins[n.port].from.why;
            } else {
                done.add(null);
            }
        }

        private void put(Strip strip, long v) {
            writes++;
            done.add(null);
            strip.past.add(v);
            strip.mark = strip.mark * 31 + v;
            if (strip.to.over == 0) {
                strip.on.add(v);
                strip.most = Math.max(strip.most, strip.on.size());
            }
        }
    }

    /** The second hall. */
    private static final class Model {
        final List<Worker> workers = new ArrayList<>();
        final List<Strip> strips = new ArrayList<>();
        final List<Integer> widenings = new ArrayList<>();
        int acts;

        /** Nobody can go on: 0 FINISHED, 2 STICKS, 1 a BAND was WIDENED; 3 somebody can. */
        private int settle(boolean widens) {
            List<Strip> full = new ArrayList<>();
            boolean waits = false;
            for (Worker w : workers) {
                int does = w.does();
                if (does == 0) {
                    return 3;
                }
                if (does == 2) {
                    waits = true;
                    full.add(w.outs[w.next().port]);
                }
            }
            full.removeIf(strip -> strip.width == 1000);
            if (full.isEmpty()) {
                return waits ? 2 : 0;
            }
            if (widens) {
                full.sort((one, other) -> one.width != other.width ? one.width - other.width
                    : strips.indexOf(one) - strips.indexOf(other));
                Strip strip = full.get(0);
                strip.width = Math.min(1000, strip.width * 2);
                strip.widened++;
                widenings.add(strips.indexOf(strip));
            }
            return 1;
        }

        int run(int way, int most, int x) {
            int n = workers.size();
            int left = most;
            int seed = x;
            int turn = 0;
            while (left > 0) {
                int settled = settle(true);
                if (settled == 0 || settled == 2) {
                    return settled;
                }
                int who = way == 1 ? n - 1 - turn % n : turn % n;
                if (way == 3) {
                    seed = seed * 1103515245 + 12345;
                    who = (int) ((seed & 0xffffffffL) / 65536 % n);
                    while (workers.get(who).does() != 0) {
                        who = (who + 1) % n;
                    }
                }
                boolean can = workers.get(who).does() == 0;
                if (can) {
                    workers.get(who).act();
                    acts++;
                    left--;
                }
                turn = way == 2 && can ? turn : turn + 1;
            }
            int settled = settle(false);
            return settled == 0 || settled == 2 ? settled : 1;
        }
    }

    public static void main(String[] args) {
        Random random = new Random(8);
        for (int net = 0; net < 6000; net++) {
            long seed = random.nextLong();
            for (int way = 0; way < 5; way++) {
                oneNet(seed, way, random);
            }
        }
        Due.due("enough were WIDENED", widenedNets > 1500 ? 1 : 0, 1);
        Due.due("enough FAILED", failedNets > 1500 ? 1 : 0, 1);
        Due.due("enough were FINISHED", finishedNets > 1500 ? 1 : 0, 1);
        Due.end();
    }

    /** A net by a seed, run by one WAY (4: by all of them mixed), looked at twice on its way. */
    private static void oneNet(long seed, int way, Random random) {
        WeaveHall hall = new WeaveHall();
        Model model = new Model();
        weave(hall, model, new Random(seed));
        int calls = 2 + random.nextInt(8);
        int answer = 1;
        for (int i = 0; i < calls && answer == 1; i++) {
            int now = way < 4 ? way : random.nextInt(4);
            int acts = i == calls - 1 ? MOST_ACTS / 2 : 1 + random.nextInt(20);
            int x = random.nextInt();
            answer = model.run(now, acts, x);
            Due.due("run(" + now + ", " + acts + ", " + x + ")", hall.run(now, acts, x), answer);
            if (i == 1 || i == calls - 1 || answer != 1) {
                compare(hall, model);
            }
        }
        widenedNets += model.widenings.isEmpty() ? 0 : 1;
        failedNets += model.workers.stream().anyMatch(w -> w.over == 4) ? 1 : 0;
        finishedNets += answer == 0 ? 1 : 0;
    }

    private static void compare(WeaveHall hall, Model model) {
        Due.due("ACTS", hall.count(2), model.acts);
        Due.due("WIDENED", hall.count(3), model.widenings.size());
        for (int i = 0; i < Math.min(20, model.widenings.size()); i++) {
            Due.due("widened", hall.widened(i), model.widenings.get(i));
        }
        for (Worker w : model.workers) {
            int does = w.does();
            Due.due("KIND " + w.kind + " does", hall.told(w.number, 1), does);
            Due.due("PORT", hall.told(w.number, 2), does == 1 || does == 2 ? w.next().port : WeaveHall.NONE);
            Due.due("read", hall.told(w.number, 3), w.reads);
            Due.due("written", hall.told(w.number, 4), w.writes);
            Due.due("where", hall.failure(w.number, 0), does == 4 ? w.where : WeaveHall.BAD);
            Due.due("why", hall.failure(w.number, 1), does == 4 ? w.why : WeaveHall.BAD);
        }
        for (int i = 0; i < model.strips.size(); i++) {
            Strip strip = model.strips.get(i);
            int over = strip.from.over;
            int[] want = {strip.width, strip.on.size(), strip.most, strip.past.size(), over == 0 ? 0 : over - 2,
                strip.widened, strip.from.number, strip.to.number};
            for (int what = 0; what < want.length; what++) {
                Due.due("bandTold(" + i + ", " + what + ")", hall.bandTold(i, what), want[what]);
            }
            Due.due("DIGEST", hall.digest(i), strip.mark);
        }
    }

    /** WEAVERS of any KIND, SOURCES and COLLECTS until the PORTS are even, then BANDS in any way. */
    private static void weave(WeaveHall hall, Model model, Random random) {
        List<int[]> outs = new ArrayList<>();
        List<int[]> ins = new ArrayList<>();
        int wanted = 1 + random.nextInt(5);
        while (model.workers.size() < wanted || outs.size() != ins.size()) {
            int kind = random.nextInt(3) == 0 ? 13 : random.nextInt(13);
            if (model.workers.size() >= wanted) {
                kind = outs.size() > ins.size() ? 9 : 0;
            }
            Worker w = add(hall, model, kind, random);
            for (int port = 0; port < Nets.OUTS[kind]; port++) {
                outs.add(new int[] {w.number, port});
            }
            for (int port = 0; port < Nets.INS[kind]; port++) {
                ins.add(new int[] {w.number, port});
            }
        }
        while (!outs.isEmpty()) {
            int[] out = outs.remove(random.nextInt(outs.size()));
            int[] in = ins.remove(random.nextInt(ins.size()));
            join(hall, model, out, in, 1 + random.nextInt(random.nextInt(3) + 1));
        }
    }

    private static Worker add(WeaveHall hall, Model model, int kind, Random random) {
        Worker w = new Worker();
        w.kind = kind;
        w.a = kind == 5 || kind == 11 ? 1 + random.nextInt(4) : random.nextInt(5);
        w.number = hall.weaver(kind, w.a);
        model.workers.add(w);
        for (int left = kind == 0 ? random.nextInt(9) : 0; left > 0; left--) {
            long v = random.nextInt(7) - 3;
            w.feed.add(v);
            hall.feed(w.number, v);
        }
        int[] likely = {0, 0, 0, 1, 1, 1, 6, 6, 6, 2, 3, 4, 5, 5, 7};
        for (int left = kind == 13 ? random.nextInt(13) : 0; left > 0; left--) {
            int step = likely[random.nextInt(likely.length)];
            int[] s = {step, random.nextInt(step == 5 ? 12 : step >= 2 && step <= 4 ? 4 : 2), random.nextInt(4)};
            w.steps.add(s);
            hall.step(w.number, s[0], s[1], s[2]);
        }
        return w;
    }

    private static void join(WeaveHall hall, Model model, int[] out, int[] in, int width) {
        Strip strip = new Strip();
        strip.from = model.workers.get(out[0]);
        strip.to = model.workers.get(in[0]);
        strip.width = width;
        strip.from.outs[out[1]] = strip;
        strip.to.ins[in[1]] = strip;
        model.strips.add(strip);
        Due.due("band", hall.band(out[0], out[1], in[0], in[1], width), model.strips.size() - 1);
    }
}
