import java.util.Arrays;

/** A hall of weavers joined by bands; DOC.md tells, as numbered promises, what each call answers. */
public final class WeaveHall {
    public static final int BAD = -1, NOT = -2, FULL = -3, NONE = -5;

    private static final int MOST_WEAVERS = 40;
    private static final int MOST_BANDS = 60;
    private static final int MOST_FEED = 200;
    private static final int MOST_STEPS = 12;
    private static final int MOST_KEPT = 300;
    private static final int MOST_KEPT_WIDENINGS = 100;
    private static final int MOST_TOLD_WIDTH = 50;
    private static final int MOST_WIDTH = 1000;
    private static final int MOST_ACTS_OF_A_CALL = 2000;
    private static final int ACTS_OF_A_FULL_RUN = 40000;
    private static final int MOST_FIRINGS = 1000000;
    private static final int MOST_QUIET_STEPS = 100;
    private static final int MOST_SORTED = 30;
    private static final int REGISTERS = 4;
    private static final int FIRST_CELLS = 8;

    private static final int SOURCE = 0, SHIFT = 1, REPEAT = 2, DELAY = 3, MERGE = 4, SPLIT = 5, SUM = 6;
    private static final int SELECT = 7, COPY = 8, COLLECT = 9, COUNT = 10, SORT = 11, TEAR = 12, SCRIPT = 13;
    private static final int[] PORTS_IN = {0, 1, 1, 1, 2, 1, 2, 3, 1, 1, 1, 1, 1, 2};
    private static final int[] PORTS_OUT = {1, 1, 1, 1, 1, 2, 1, 1, 2, 0, 1, 1, 1, 2};

    private static final int READ = 0, WRITE = 1, LET = 2, ADD = 3, LESS = 4, GO = 5, TRY = 6, FAIL = 7;
    /** Two more of what a SCRIPT may come to, beside its STEPS. */
    private static final int NO_STEPS = 8, TOO_QUIET = 9;

    /** The next ACT of a WEAVER, or that it has none any more. */
    private static final int TO_READ = 0, TO_WRITE = 1, TO_END = 2, TO_FAIL = 3, ENDED = 4, FAILED = 5;
    /** For a moment inside an ACT: a SCRIPT's own STEPS tell what is next. */
    private static final int AS_SCRIPTED = 6;

    private static final int GOES_ON = 0, WAITS_TO_READ = 1, WAITS_TO_WRITE = 2, HAS_ENDED = 3, HAS_FAILED = 4;
    private static final int BY_TEAR = 1, BY_FAIL = 2, BY_QUIET_STEPS = 3;
    private static final int FINISHED = 0, ACTS_DONE = 1, STICKS = 2;
    private static final int UP = 0, DOWN = 1, AS_MANY = 2, BY_X = 3;
    private static final int NOBODY = -1;

    private final Weaver[] weavers = new Weaver[MOST_WEAVERS];
    private final Band[] bands = new Band[MOST_BANDS];
    private final int[] widenings = new int[MOST_KEPT_WIDENINGS];
    private final Rates rates = new Rates();
    private int weaverCount;
    private int bandCount;
    private int openPorts;
    private int wideningCount;
    private int actCount;
    private boolean begun;

    public WeaveHall() {
    }

    // ---- 1 nets

    public int weaver(int kind, int a) {
        if (kind < SOURCE || kind > SCRIPT || !suits(kind, a)) {
            return BAD;
        }
        if (begun) {
            return NOT;
        }
        if (weaverCount >= MOST_WEAVERS) {
            return FULL;
        }
        Weaver made = weavers[weaverCount];
        if (made == null) {
            made = new Weaver(weaverCount);
            weavers[weaverCount] = made;
        }
        made.become(kind, a);
        openPorts += PORTS_IN[kind] + PORTS_OUT[kind];
        weaverCount++;
        return made.number;
    }

    public int feed(int weaver, long v) {
        Weaver source = weaverAt(weaver);
        if (source == null || source.kind != SOURCE) {
            return BAD;
        }
        if (begun) {
            return NOT;
        }
        if (source.row.size >= MOST_FEED) {
            return FULL;
        }
        source.row.append(v);
        return source.row.size;
    }

    public int step(int weaver, int step, int a, int b) {
        Weaver writer = weaverAt(weaver);
        if (writer == null || writer.kind != SCRIPT || !isStep(step, a, b)) {
            return BAD;
        }
        if (begun) {
            return NOT;
        }
        if (writer.script.size >= MOST_STEPS) {
            return FULL;
        }
        writer.script.append(step, a, b);
        return writer.script.size;
    }

    public int band(int from, int out, int to, int in, int width) {
        Weaver writer = weaverAt(from);
        Weaver reader = weaverAt(to);
        if (writer == null || reader == null || !isToldWidth(width)
                || out < 0 || out >= PORTS_OUT[writer.kind] || in < 0 || in >= PORTS_IN[reader.kind]) {
            return BAD;
        }
        if (begun || writer.outs[out] != null || reader.ins[in] != null) {
            return NOT;
        }
        if (bandCount >= MOST_BANDS) {
            return FULL;
        }
        Band made = bands[bandCount];
        if (made == null) {
            made = new Band(bandCount);
            bands[bandCount] = made;
        }
        made.join(writer, reader, width);
        writer.outs[out] = made;
        reader.ins[in] = made;
        openPorts -= 2;
        bandCount++;
        return made.number;
    }

    public int width(int band, int n) {
        Band changed = bandAt(band);
        if (changed == null || !isToldWidth(n)) {
            return BAD;
        }
        if (begun) {
            return NOT;
        }
        int before = changed.toldWidth;
        changed.toldWidth = n;
        changed.restart();
        return before;
    }

    public int clear() {
        int before = weaverCount;
        weaverCount = 0;
        bandCount = 0;
        openPorts = 0;
        forgetRun();
        return before;
    }

    // ---- 2 runs

    public int run(int way, int acts, int x) {
        if (way < UP || way > BY_X || acts < 1 || acts > MOST_ACTS_OF_A_CALL) {
            return BAD;
        }
        if (openPorts != 0) {
            return NOT;
        }
        if (actCount >= ACTS_OF_A_FULL_RUN) {
            return FULL;
        }
        if (!begun) {
            restartAll();
            begun = true;
        }
        return doActs(way, acts, x);
    }

    public int reset() {
        if (!begun) {
            return NOT;
        }
        int before = actCount;
        forgetRun();
        restartAll();
        return before;
    }

    public int told(int weaver, int what) {
        Weaver asked = weaverAt(weaver);
        if (asked == null) {
            return BAD;
        }
        switch (what) {
            case 0:
                return asked.kind;
            case 1:
                return begun ? asked.doing() : GOES_ON;
            case 2:
                return begun && asked.waits() ? asked.port : NONE;
            case 3:
                return asked.reads;
            case 4:
                return asked.writes;
            case 5:
                return asked.stock();
            default:
                return BAD;
        }
    }

    public long woven(int weaver, int i) {
        Weaver asked = weaverAt(weaver);
        return asked == null || asked.kind != COLLECT ? 0 : asked.row.at(i);
    }

    public int bandTold(int band, int what) {
        Band asked = bandAt(band);
        if (asked == null) {
            return BAD;
        }
        switch (what) {
            case 0:
                return asked.widthNow;
            case 1:
                return asked.load;
            case 2:
                return asked.mostLoad;
            case 3:
                return asked.past.size;
            case 4:
                return asked.ending();
            case 5:
                return asked.timesWidened;
            case 6:
                return asked.from.number;
            case 7:
                return asked.to.number;
            default:
                return BAD;
        }
    }

    public long history(int band, int i) {
        Band asked = bandAt(band);
        return asked == null ? 0 : asked.past.at(i);
    }

    public long digest(int band) {
        Band asked = bandAt(band);
        return asked == null ? 0 : asked.mark;
    }

    public int widened(int i) {
        return i < 0 || i >= wideningCount || i >= MOST_KEPT_WIDENINGS ? BAD : widenings[i];
    }

    public int failure(int weaver, int what) {
        Weaver asked = weaverAt(weaver);
        if (asked == null || what < 0 || what > 1 || asked.next != FAILED) {
            return BAD;
        }
        return what == 0 ? asked.origin : asked.why;
    }

    // ---- 3 rates

    public int balance(int weaver) {
        if (weaverAt(weaver) == null) {
            return BAD;
        }
        if (!isFixed()) {
            return NOT;
        }
        if (!rates.solve(weaverCount, bands, bandCount)) {
            return NONE;
        }
        return rates.firingsOf(weaver);
    }

    public int count(int what) {
        switch (what) {
            case 0:
                return weaverCount;
            case 1:
                return bandCount;
            case 2:
                return actCount;
            case 3:
                return wideningCount;
            case 4:
                return openPorts == 0 ? 1 : 0;
            case 5:
                return begun ? 1 : 0;
            case 6:
                return rates.findParts(weaverCount, bands, bandCount);
            default:
                return BAD;
        }
    }

    // ---- what may be named

    private Weaver weaverAt(int number) {
        return number < 0 || number >= weaverCount ? null : weavers[number];
    }

    private Band bandAt(int number) {
        return number < 0 || number >= bandCount ? null : bands[number];
    }

    private static boolean isToldWidth(int n) {
        return n >= 1 && n <= MOST_TOLD_WIDTH;
    }

    private static boolean suits(int kind, int a) {
        switch (kind) {
            case REPEAT:
                return a >= 0 && a <= 20;
            case SPLIT:
                return a >= 1 && a <= 1000;
            case SORT:
                return a >= 1 && a <= MOST_SORTED;
            case TEAR:
                return a >= 0 && a <= 1000;
            default:
                return true;
        }
    }

    private static boolean isStep(int step, int a, int b) {
        switch (step) {
            case READ:
            case WRITE:
            case TRY:
                return a >= 0 && a <= 1 && isRegister(b);
            case LET:
                return isRegister(a);
            case ADD:
            case LESS:
                return isRegister(a) && isRegister(b);
            case GO:
                return a >= 0 && a < MOST_STEPS && isRegister(b);
            case FAIL:
                return true;
            default:
                return false;
        }
    }

    private static boolean isRegister(int r) {
        return r >= 0 && r < REGISTERS;
    }

    // ---- how a run goes

    private void forgetRun() {
        begun = false;
        actCount = 0;
        wideningCount = 0;
    }

    private void restartAll() {
        for (int i = 0; i < weaverCount; i++) {
            weavers[i].restart();
        }
        for (int i = 0; i < bandCount; i++) {
            bands[i].restart();
        }
    }

    private int doActs(int way, int acts, int x) {
        int direction = way == DOWN ? -1 : 1;
        int turn = way == DOWN ? weaverCount - 1 : 0;
        int seed = x;
        for (int done = 0; done < acts; done++) {
            if (way == BY_X && weaverCount > 0) {
                seed = seed * 1103515245 + 12345;
                turn = (seed >>> 16) % weaverCount;
            }
            int who = firstAble(turn, direction);
            if (who == NOBODY) {
                if (!widenTightest()) {
                    return stillness();
                }
                who = firstAble(turn, direction);
            }
            if (who == NOBODY) {
                return stillness();
            }
            weavers[who].act();
            actCount++;
            turn = way == AS_MANY ? who : who + direction;
        }
        return firstAble(0, 1) == NOBODY ? stillness() : ACTS_DONE;
    }

    private int firstAble(int turn, int direction) {
        int who = turn;
        for (int looked = 0; looked < weaverCount; looked++) {
            if (who < 0) {
                who = weaverCount - 1;
            } else if (who >= weaverCount) {
                who = 0;
            }
            if (weavers[who].doing() == GOES_ON) {
                return who;
            }
            who += direction;
        }
        return NOBODY;
    }

    /** What a run is in which nobody can go on; one that a wider BAND would help is not over. */
    private int stillness() {
        if (tightest() != null) {
            return ACTS_DONE;
        }
        for (int i = 0; i < weaverCount; i++) {
            if (weavers[i].doing() == WAITS_TO_WRITE) {
                return STICKS;
            }
        }
        return FINISHED;
    }

    private boolean widenTightest() {
        Band chosen = tightest();
        if (chosen == null) {
            return false;
        }
        chosen.widen();
        if (wideningCount < MOST_KEPT_WIDENINGS) {
            widenings[wideningCount] = chosen.number;
        }
        wideningCount++;
        return true;
    }

    private Band tightest() {
        Band best = null;
        for (int i = 0; i < weaverCount; i++) {
            Weaver one = weavers[i];
            Band full = one.doing() == WAITS_TO_WRITE ? one.outs[one.port] : null;
            if (full != null && full.widthNow < MOST_WIDTH && (best == null || full.isTighterThan(best))) {
                best = full;
            }
        }
        return best;
    }

    private boolean isFixed() {
        if (openPorts != 0) {
            return false;
        }
        for (int i = 0; i < weaverCount; i++) {
            if (!hasFixedRates(weavers[i].kind)) {
                return false;
            }
        }
        return true;
    }

    private static boolean hasFixedRates(int kind) {
        switch (kind) {
            case MERGE:
            case SPLIT:
            case SELECT:
            case SORT:
            case TEAR:
            case SCRIPT:
                return false;
            default:
                return true;
        }
    }

    /** PATTERNS in the order in which they came: all are counted, the first MOST_KEPT are kept. */
    private static final class Row {
        private long[] cells = new long[FIRST_CELLS];
        private int size;

        void empty() {
            size = 0;
        }

        void append(long v) {
            if (size < MOST_KEPT) {
                if (size >= cells.length) {
                    cells = Arrays.copyOf(cells, Math.min(2 * cells.length, MOST_KEPT));
                }
                cells[size] = v;
            }
            size++;
        }

        long at(int i) {
            return i < 0 || i >= size || i >= cells.length ? 0 : cells[i];
        }
    }

    private static final class Band {
        private final int number;
        private final Row past = new Row();
        private Weaver from;
        private Weaver to;
        private int toldWidth;
        private int widthNow;
        private int timesWidened;
        /** A ring: it grows with what is on the BAND, since few BANDS ever come near their WIDTH. */
        private long[] ring = new long[FIRST_CELLS];
        private int head;
        private int load;
        private int mostLoad;
        private long mark;

        Band(int number) {
            this.number = number;
        }

        void join(Weaver writer, Weaver reader, int width) {
            from = writer;
            to = reader;
            toldWidth = width;
            restart();
        }

        void restart() {
            widthNow = toldWidth;
            timesWidened = 0;
            head = 0;
            load = 0;
            mostLoad = 0;
            mark = 7;
            past.empty();
        }

        boolean canBeRead() {
            return load > 0 || from.isOver();
        }

        boolean canBeWritten() {
            return load < widthNow || to.isOver();
        }

        int ending() {
            return from.next == ENDED ? 1 : from.next == FAILED ? 2 : 0;
        }

        boolean isTighterThan(Band other) {
            return widthNow < other.widthNow || widthNow == other.widthNow && number < other.number;
        }

        void widen() {
            widthNow = Math.min(2 * widthNow, MOST_WIDTH);
            timesWidened++;
        }

        void put(long v) {
            past.append(v);
            mark = 31 * mark + v;
            if (!to.isOver()) {
                lay(v);
            }
        }

        private void lay(long v) {
            if (load >= ring.length) {
                growRing();
            }
            int end = head + load;
            if (end >= ring.length) {
                end -= ring.length;
            }
            ring[end] = v;
            load++;
            mostLoad = Math.max(mostLoad, load);
        }

        private void growRing() {
            long[] wider = new long[2 * ring.length];
            int behindHead = ring.length - head;
            System.arraycopy(ring, head, wider, 0, behindHead);
            System.arraycopy(ring, 0, wider, behindHead, head);
            ring = wider;
            head = 0;
        }

        long take() {
            long v = ring[head];
            head++;
            if (head >= ring.length) {
                head = 0;
            }
            load--;
            return v;
        }
    }

    /** What a MERGE holds of each PORT, or a SORT of its one, and which PORTS it has read the end of. */
    private static final class Hand {
        private final long[] held = new long[MOST_SORTED];
        private final boolean[] holds = new boolean[2];
        private final boolean[] over = new boolean[2];
        private int size;

        void empty() {
            size = 0;
            for (int port = 0; port < 2; port++) {
                holds[port] = false;
                over[port] = false;
            }
        }

        void hold(int port, long v) {
            if (port >= 0 && port < 2) {
                held[port] = v;
                holds[port] = true;
            }
        }

        void close(int port) {
            if (port >= 0 && port < 2) {
                over[port] = true;
            }
        }

        int portToRead() {
            for (int port = 0; port < 2; port++) {
                if (!over[port] && !holds[port]) {
                    return port;
                }
            }
            return NONE;
        }

        int portOfLesser() {
            if (holds[0] && (!holds[1] || held[0] <= held[1])) {
                return 0;
            }
            return holds[1] ? 1 : NONE;
        }

        long giveOf(int port) {
            if (port < 0 || port > 1) {
                return 0;
            }
            holds[port] = false;
            return held[port];
        }

        /** The least stands last, where it is the first to be given. */
        void sortIn(long v) {
            if (size >= MOST_SORTED) {
                return;
            }
            int place = size;
            while (place > 0 && held[place - 1] < v) {
                held[place] = held[place - 1];
                place--;
            }
            held[place] = v;
            size++;
        }

        long giveLeast() {
            if (size <= 0) {
                return 0;
            }
            size--;
            return held[size];
        }
    }

    /** STEPS and registers. Nobody sees the registers, so that quiet STEPS may be done as soon as they are next. */
    private static final class Script {
        private final int[] steps = new int[MOST_STEPS];
        private final int[] as = new int[MOST_STEPS];
        private final int[] bs = new int[MOST_STEPS];
        private final long[] registers = new long[REGISTERS];
        private int size;
        private int at;

        void append(int step, int a, int b) {
            if (size < MOST_STEPS) {
                steps[size] = step;
                as[size] = a;
                bs[size] = b;
                size++;
            }
        }

        void restart() {
            at = 0;
            Arrays.fill(registers, 0);
        }

        /** Goes through the quiet STEPS: the STEP that is the next ACT, or why there is none. */
        int nextAct() {
            if (size == 0) {
                return NO_STEPS;
            }
            for (int done = 0; done < MOST_QUIET_STEPS; done++) {
                int step = steps[at];
                if (step < LET || step > GO) {
                    return step;
                }
                if (step == GO && registers[bs[at]] != 0) {
                    goTo(as[at]);
                } else {
                    reckon(step, as[at], bs[at]);
                    goTo(at + 1);
                }
            }
            return TOO_QUIET;
        }

        private void reckon(int step, int a, int b) {
            switch (step) {
                case LET:
                    registers[a] = b;
                    break;
                case ADD:
                    registers[a] += registers[b];
                    break;
                case LESS:
                    registers[a] = registers[a] < registers[b] ? 1 : 0;
                    break;
                default:
                    break;
            }
        }

        private void goTo(int place) {
            at = place < size ? place : 0;
        }

        boolean isAtTry() {
            return size > 0 && steps[at] == TRY;
        }

        int portNow() {
            return as[at];
        }

        long registerNow() {
            return registers[bs[at]];
        }

        void keep(long v) {
            registers[bs[at]] = v;
        }

        void goOn() {
            goTo(at + 1);
        }

        /** STEP by STEP, since behind the last STEP the one to pass over is STEP 0. */
        void passOver() {
            goOn();
            goOn();
        }
    }

    /** Its next ACT is always known (next, port, value): an ACT is done, then the one behind it is told. */
    private static final class Weaver {
        private final int number;
        private final Band[] ins = new Band[3];
        private final Band[] outs = new Band[2];
        /** The FEED of a SOURCE, the CLOTH of a COLLECT. */
        private final Row row = new Row();
        private final Hand hand = new Hand();
        private final Script script = new Script();
        private int kind;
        private int a;
        private int next;
        private int port;
        private long value;
        /** Where in its FEED a SOURCE is, how often a REPEAT has still to write. */
        private int place;
        private int reads;
        private int writes;
        private int origin;
        private int why;

        Weaver(int number) {
            this.number = number;
        }

        void become(int newKind, int newA) {
            kind = newKind;
            a = newA;
            for (int i = 0; i < ins.length; i++) {
                ins[i] = null;
            }
            for (int i = 0; i < outs.length; i++) {
                outs[i] = null;
            }
            row.empty();
            script.size = 0;
            restart();
        }

        void restart() {
            reads = 0;
            writes = 0;
            place = 0;
            value = 0;
            origin = number;
            why = 0;
            hand.empty();
            script.restart();
            if (kind == COLLECT) {
                row.empty();
            }
            firstAct();
            askScript();
        }

        int stock() {
            switch (kind) {
                case SOURCE:
                case COLLECT:
                    return row.size;
                case SCRIPT:
                    return script.size;
                default:
                    return 0;
            }
        }

        boolean isOver() {
            return next == ENDED || next == FAILED;
        }

        int doing() {
            switch (next) {
                case TO_READ:
                    return ins[port] != null && ins[port].canBeRead() ? GOES_ON : WAITS_TO_READ;
                case TO_WRITE:
                    return outs[port] != null && outs[port].canBeWritten() ? GOES_ON : WAITS_TO_WRITE;
                case ENDED:
                    return HAS_ENDED;
                case FAILED:
                    return HAS_FAILED;
                default:
                    return GOES_ON;
            }
        }

        boolean waits() {
            int now = doing();
            return now == WAITS_TO_READ || now == WAITS_TO_WRITE;
        }

        void act() {
            switch (next) {
                case TO_READ:
                    readOff(ins[port]);
                    break;
                case TO_WRITE:
                    writeTo(outs[port]);
                    break;
                case TO_END:
                    next = ENDED;
                    break;
                case TO_FAIL:
                    next = FAILED;
                    break;
                default:
                    break;
            }
            askScript();
        }

        private void readOff(Band band) {
            if (band == null || !band.canBeRead()) {
                return;
            }
            if (band.load > 0) {
                reads++;
                afterPattern(band.take());
            } else if (kind == SCRIPT && script.isAtTry()) {
                script.passOver();
                next = AS_SCRIPTED;
            } else if (band.from.next == FAILED) {
                origin = band.from.origin;
                why = band.from.why;
                next = FAILED;
            } else {
                afterEnd();
            }
        }

        private void writeTo(Band band) {
            if (band == null || !band.canBeWritten()) {
                return;
            }
            writes++;
            band.put(value);
            afterWriting();
        }

        private void toRead(int newPort) {
            next = TO_READ;
            port = newPort;
        }

        private void toWrite(int newPort, long v) {
            next = TO_WRITE;
            port = newPort;
            value = v;
        }

        private void toFail(int reason) {
            next = TO_FAIL;
            why = reason;
        }

        private void firstAct() {
            switch (kind) {
                case SOURCE:
                    sourceGoesOn();
                    break;
                case DELAY:
                    toWrite(0, a);
                    break;
                case TEAR:
                    tearGoesOn();
                    break;
                case SCRIPT:
                    next = AS_SCRIPTED;
                    break;
                default:
                    toRead(0);
                    break;
            }
        }

        private void afterPattern(long v) {
            switch (kind) {
                case SHIFT:
                    toWrite(0, v + a);
                    break;
                case REPEAT:
                    place = a;
                    repeatGoesOn(v);
                    break;
                case MERGE:
                    hand.hold(port, v);
                    mergeGoesOn();
                    break;
                case SPLIT:
                    toWrite(a != 0 && v % a == 0 ? 0 : 1, v);
                    break;
                case SUM:
                    sumGoesOn(v);
                    break;
                case SELECT:
                    selectGoesOn(v);
                    break;
                case COLLECT:
                    row.append(v);
                    toRead(0);
                    break;
                case COUNT:
                    toWrite(0, reads);
                    break;
                case SORT:
                    hand.sortIn(v);
                    sortGoesOn(hand.size >= a);
                    break;
                case SCRIPT:
                    script.keep(v);
                    script.goOn();
                    next = AS_SCRIPTED;
                    break;
                default:
                    toWrite(0, v);
                    break;
            }
        }

        private void afterWriting() {
            switch (kind) {
                case SOURCE:
                    sourceGoesOn();
                    break;
                case REPEAT:
                    place--;
                    repeatGoesOn(value);
                    break;
                case MERGE:
                    mergeGoesOn();
                    break;
                case COPY:
                    copyGoesOn();
                    break;
                case SORT:
                    sortGoesOn(hand.size > 0 || hand.over[0]);
                    break;
                case TEAR:
                    tearGoesOn();
                    break;
                case SCRIPT:
                    script.goOn();
                    next = AS_SCRIPTED;
                    break;
                default:
                    toRead(0);
                    break;
            }
        }

        private void afterEnd() {
            switch (kind) {
                case MERGE:
                    hand.close(port);
                    mergeGoesOn();
                    break;
                case SORT:
                    hand.close(0);
                    sortGoesOn(true);
                    break;
                default:
                    next = TO_END;
                    break;
            }
        }

        private void sourceGoesOn() {
            if (place < row.size) {
                toWrite(0, row.at(place));
                place++;
            } else {
                next = TO_END;
            }
        }

        private void repeatGoesOn(long v) {
            if (place > 0) {
                toWrite(0, v);
            } else {
                toRead(0);
            }
        }

        private void mergeGoesOn() {
            int lacking = hand.portToRead();
            int lesser = hand.portOfLesser();
            if (lacking != NONE) {
                toRead(lacking);
            } else if (lesser != NONE) {
                toWrite(0, hand.giveOf(lesser));
            } else {
                next = TO_END;
            }
        }

        private void sumGoesOn(long v) {
            if (port == 0) {
                value = v;
                toRead(1);
            } else {
                toWrite(0, value + v);
            }
        }

        private void selectGoesOn(long v) {
            if (port == 0) {
                toRead(v == 0 ? 1 : 2);
            } else {
                toWrite(0, v);
            }
        }

        private void copyGoesOn() {
            if (port == 0) {
                toWrite(1, value);
            } else {
                toRead(0);
            }
        }

        private void sortGoesOn(boolean givesNow) {
            if (!givesNow) {
                toRead(0);
            } else if (hand.size > 0) {
                toWrite(0, hand.giveLeast());
            } else {
                next = TO_END;
            }
        }

        private void tearGoesOn() {
            if (reads >= a) {
                toFail(BY_TEAR);
            } else {
                toRead(0);
            }
        }

        private void askScript() {
            if (next != AS_SCRIPTED) {
                return;
            }
            switch (script.nextAct()) {
                case READ:
                case TRY:
                    toRead(script.portNow());
                    break;
                case WRITE:
                    toWrite(script.portNow(), script.registerNow());
                    break;
                case FAIL:
                    toFail(BY_FAIL);
                    break;
                case TOO_QUIET:
                    toFail(BY_QUIET_STEPS);
                    break;
                default:
                    next = TO_END;
                    break;
            }
        }
    }

    /** The parts of a net, and its firings: of each WEAVER as a fraction of those of its part's first one. */
    private static final class Rates {
        private final int[] part = new int[MOST_WEAVERS];
        private final long[] above = new long[MOST_WEAVERS];
        private final long[] below = new long[MOST_WEAVERS];
        private boolean hopeless;

        /** Each WEAVER's part bears the least number of a WEAVER in it. How many parts there are. */
        int findParts(int weaverCount, Band[] bands, int bandCount) {
            for (int i = 0; i < weaverCount; i++) {
                part[i] = i;
            }
            boolean changed = true;
            for (int pass = 0; pass < weaverCount && changed; pass++) {
                changed = false;
                for (int i = 0; i < bandCount; i++) {
                    changed = drawTogether(bands[i].from.number, bands[i].to.number) || changed;
                }
            }
            int parts = 0;
            for (int i = 0; i < weaverCount; i++) {
                parts += part[i] == i ? 1 : 0;
            }
            return parts;
        }

        private boolean drawTogether(int one, int other) {
            if (part[one] == part[other]) {
                return false;
            }
            int least = Math.min(part[one], part[other]);
            part[one] = least;
            part[other] = least;
            return true;
        }

        /** Whether the net is BALANCED with numbers that may be told: firingsOf() tells them then. */
        boolean solve(int weaverCount, Band[] bands, int bandCount) {
            findParts(weaverCount, bands, bandCount);
            hopeless = false;
            for (int i = 0; i < weaverCount; i++) {
                above[i] = part[i] == i ? 1 : 0;
                below[i] = 1;
            }
            boolean changed = true;
            for (int pass = 0; pass < weaverCount && changed && !hopeless; pass++) {
                changed = false;
                for (int i = 0; i < bandCount && !hopeless; i++) {
                    changed = spread(bands[i]) || changed;
                }
            }
            return !hopeless && agreesWithAll(bands, bandCount) && makeWhole(weaverCount);
        }

        int firingsOf(int weaver) {
            return weaver < 0 || weaver >= MOST_WEAVERS ? NONE : (int) above[weaver];
        }

        private static long writtenByFiring(Weaver writer) {
            return writer.kind == REPEAT ? writer.a : 1;
        }

        private boolean spread(Band band) {
            int from = band.from.number;
            int to = band.to.number;
            long rate = writtenByFiring(band.from);
            if (above[from] != 0 && above[to] == 0) {
                setFraction(to, above[from] * rate, below[from]);
                return true;
            }
            if (above[from] == 0 && above[to] != 0) {
                setFraction(from, above[to], below[to] * rate);
                return true;
            }
            return false;
        }

        /**
         * In lowest terms the WEAVER's firings are a multiple of what is above, the first one's of what is below:
         * a fraction beyond the most firings has no answer, whatever else the net is like, and none can overflow.
         */
        private void setFraction(int weaver, long top, long bottom) {
            long shared = greatestDivisor(top, bottom);
            if (top == 0 || bottom == 0 || shared == 0
                    || top / shared > MOST_FIRINGS || bottom / shared > MOST_FIRINGS) {
                hopeless = true;
                return;
            }
            above[weaver] = top / shared;
            below[weaver] = bottom / shared;
        }

        private boolean agreesWithAll(Band[] bands, int bandCount) {
            for (int i = 0; i < bandCount; i++) {
                int from = bands[i].from.number;
                int to = bands[i].to.number;
                long written = above[from] * writtenByFiring(bands[i].from) * below[to];
                if (written != above[to] * below[from]) {
                    return false;
                }
            }
            return true;
        }

        private boolean makeWhole(int weaverCount) {
            for (int first = 0; first < weaverCount; first++) {
                if (part[first] == first && !makePartWhole(first, weaverCount)) {
                    return false;
                }
            }
            return true;
        }

        private boolean makePartWhole(int first, int weaverCount) {
            long firings = 1;
            for (int i = first; i < weaverCount; i++) {
                long shared = part[i] == first ? greatestDivisor(firings, below[i]) : 0;
                if (shared != 0) {
                    firings = firings / shared * below[i];
                }
                if (firings > MOST_FIRINGS) {
                    return false;
                }
            }
            for (int i = first; i < weaverCount; i++) {
                if (part[i] == first && below[i] != 0) {
                    above[i] *= firings / below[i];
                    if (above[i] > MOST_FIRINGS) {
                        return false;
                    }
                }
            }
            return true;
        }

        /** Ninety rounds are enough for any two longs. */
        private static long greatestDivisor(long one, long other) {
            long greater = one;
            long lesser = other;
            for (int round = 0; round < 100 && lesser != 0; round++) {
                long rest = greater % lesser;
                greater = lesser;
                lesser = rest;
            }
            return greater;
        }
    }
}
