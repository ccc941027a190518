import java.math.BigInteger;
import java.util.Arrays;
import java.util.Random;

/** Promise 17, balance: the least firings of each part; NOT if not FIXED, NONE if not BALANCED or above 1000000. */
public final class Promise17BalanceTest {
    private static final int[] FIXED_INNER = {1, 2, 2, 2, 3, 6, 6, 8, 8, 10};

    public static void main(String[] args) {
        Due.cases(Promise17BalanceTest.class);
    }

    /** SOURCE, REPEATS, COLLECT in a row. */
    private static WeaveHall chain(int... repeats) {
        WeaveHall hall = new WeaveHall();
        Due.source(hall);
        for (int a : repeats) {
            hall.weaver(2, a);
        }
        Due.collect(hall);
        return Nets.inARow(hall, 1);
    }

    private static void firings(WeaveHall hall, int... want) {
        for (int i = 0; i < want.length; i++) {
            Due.due("balance(" + i + ")", hall.balance(i), want[i]);
        }
    }

    private static void allAre(WeaveHall hall, int want) {
        int[] all = new int[hall.count(0)];
        Arrays.fill(all, want);
        firings(hall, all);
    }

    private static void bad(int weaver) {
        Twins.refused("balance(" + weaver + ")", WeaveHall.BAD, () -> chain(2), hall -> hall.balance(weaver));
    }

    static void weaverBelow0IsBad() {
        bad(-1);
    }

    static void weaverBehindTheLastIsBad() {
        bad(3);
    }

    static void weaverFarAwayIsBad() {
        for (int far : Nets.FAR) {
            bad(far);
        }
    }

    static void badIsAheadOfNot() {
        Due.due("not WHOLE", Nets.alone(1).balance(1), WeaveHall.BAD);
        Due.due("not WHOLE", Nets.alone(1).balance(-1), WeaveHall.BAD);
        Due.due("a SCRIPT", Nets.small().balance(5), WeaveHall.BAD);
    }

    static void badIsAheadOfNone() {
        Due.due("not BALANCED", chain(0).balance(3), WeaveHall.BAD);
        Due.due("not BALANCED", chain(0).balance(-1), WeaveHall.BAD);
    }

    static void notOfANetThatIsNotWhole() {
        Twins.refused("PORT out", WeaveHall.NOT, () -> Nets.alone(0), hall -> hall.balance(0));
        Twins.refused("PORT in", WeaveHall.NOT, () -> Nets.alone(9), hall -> hall.balance(0));
    }

    static void notOfAKindWithoutFixedRates() {
        for (int kind : new int[] {4, 5, 7, 11, 12, 13}) {
            Due.due("WHOLE", Nets.around(kind).count(4), 1);
            Twins.refused("KIND " + kind, WeaveHall.NOT, () -> Nets.around(kind), hall -> hall.balance(0));
        }
    }

    static void theOtherKindsAreFixed() {
        for (int kind : new int[] {0, 1, 2, 3, 6, 8, 9, 10}) {
            allAre(Nets.around(kind), 1);
        }
    }

    static void oneThatIsNotFixedMakesAllOfTheNetSo() {
        WeaveHall hall = chain(2);
        int tear = hall.weaver(12, 5);
        hall.band(tear, 0, tear, 0, 1);
        allAre(hall, WeaveHall.NOT);
    }

    static void notIsAheadOfNone() {
        WeaveHall hall = chain(0);
        int tear = hall.weaver(12, 5);
        Due.due("not WHOLE", hall.balance(0), WeaveHall.NOT);
        hall.band(tear, 0, tear, 0, 1);
        Due.due("a TEAR", hall.balance(0), WeaveHall.NOT);
    }

    static void repeat0IsNotBalanced() {
        allAre(chain(0), WeaveHall.NONE);
        allAre(chain(3, 0, 2), WeaveHall.NONE);
        allAre(chain(0, 0), WeaveHall.NONE);
    }

    static void repeat0IsNotBalancedSeenFromItsReader() {
        WeaveHall hall = new WeaveHall();
        Due.collect(hall);
        hall.weaver(2, 0);
        Due.source(hall);
        hall.band(1, 0, 0, 0, 1);
        hall.band(2, 0, 1, 0, 1);
        allAre(hall, WeaveHall.NONE);
    }

    static void repeat1And20() {
        firings(chain(1), 1, 1, 1);
        firings(chain(20), 1, 1, 20);
        firings(chain(3, 2, 5), 1, 1, 3, 6, 30);
    }

    private static WeaveHall toItself(int kind, int a) {
        WeaveHall hall = new WeaveHall();
        hall.weaver(kind, a);
        hall.band(0, 0, 0, 0, 1);
        return hall;
    }

    static void toItself() {
        firings(toItself(2, 1), 1);
        firings(toItself(1, 5), 1);
        firings(toItself(3, 5), 1);
        firings(toItself(2, 0), WeaveHall.NONE);
        firings(toItself(2, 2), WeaveHall.NONE);
        firings(toItself(2, 20), WeaveHall.NONE);
    }

    /** DELAY 0 and COPY 1 in a ring, COUNT 2 and COLLECT 3 behind it. */
    static void aRingIsBalanced() {
        WeaveHall hall = new WeaveHall();
        hall.weaver(3, 1);
        hall.weaver(8, 0);
        hall.weaver(10, 0);
        Due.collect(hall);
        hall.band(0, 0, 1, 0, 1);
        hall.band(1, 0, 0, 0, 1);
        hall.band(1, 1, 2, 0, 1);
        hall.band(2, 0, 3, 0, 1);
        allAre(hall, 1);
    }

    static void aRingThatDoublesIsNotBalanced() {
        allAre(Nets.doubling(1), WeaveHall.NONE);
    }

    /** COPY, one way by REPEAT, then SUM: both ways must bring as many. */
    private static WeaveHall diamond(int one, int other) {
        WeaveHall hall = new WeaveHall();
        Due.source(hall);
        hall.weaver(8, 0);
        hall.weaver(2, one);
        hall.weaver(2, other);
        hall.weaver(6, 0);
        Due.collect(hall);
        hall.band(0, 0, 1, 0, 1);
        hall.band(1, 0, 2, 0, 1);
        hall.band(1, 1, 3, 0, 1);
        hall.band(2, 0, 4, 0, 1);
        hall.band(3, 0, 4, 1, 1);
        hall.band(4, 0, 5, 0, 1);
        return hall;
    }

    static void bothWaysMustBringAsMany() {
        firings(diamond(3, 3), 1, 1, 1, 1, 3, 3);
        allAre(diamond(3, 4), WeaveHall.NONE);
        allAre(diamond(1, 2), WeaveHall.NONE);
        allAre(diamond(0, 0), WeaveHall.NONE);
    }

    /** SUM 0 of SOURCES that REPEAT: 4 and 6 come to 12, 3 and 5 to 15, 20 and 20 to 20. */
    private static WeaveHall sum(int one, int other) {
        WeaveHall hall = new WeaveHall();
        hall.weaver(6, 0);
        hall.weaver(2, one);
        hall.weaver(2, other);
        Due.source(hall);
        Due.source(hall);
        Due.collect(hall);
        hall.band(1, 0, 0, 0, 1);
        hall.band(2, 0, 0, 1, 1);
        hall.band(3, 0, 1, 0, 1);
        hall.band(4, 0, 2, 0, 1);
        hall.band(0, 0, 5, 0, 1);
        return hall;
    }

    static void theLeastNumbersAreTold() {
        firings(sum(4, 6), 12, 3, 2, 3, 2, 12);
        firings(sum(3, 5), 15, 5, 3, 5, 3, 15);
        firings(sum(20, 20), 20, 1, 1, 1, 1, 20);
        firings(sum(19, 20), 380, 20, 19, 20, 19, 380);
    }

    static void eachPartHasItsLeastNumbers() {
        WeaveHall hall = sum(4, 6);
        int source = Due.source(hall);
        int repeat = hall.weaver(2, 5);
        int collect = Due.collect(hall);
        hall.band(source, 0, repeat, 0, 1);
        hall.band(repeat, 0, collect, 0, 1);
        firings(hall, 12, 3, 2, 3, 2, 12, 1, 1, 5);
    }

    /** WEAVERS of two parts by turns: SOURCES 0 and 1, REPEATS 2 and 3, COLLECTS 4 and 5. */
    static void partsMayComeByTurns() {
        WeaveHall hall = new WeaveHall();
        Due.source(hall);
        Due.source(hall);
        hall.weaver(2, 2);
        hall.weaver(2, 3);
        Due.collect(hall);
        Due.collect(hall);
        for (int i = 0; i < 4; i++) {
            hall.band(i, 0, i + 2, 0, 1);
        }
        firings(hall, 1, 1, 1, 1, 2, 3);
    }

    static void onePartThatIsNotBalancedMakesAllOfTheNetSo() {
        WeaveHall hall = chain(2);
        int repeat = hall.weaver(2, 2);
        hall.band(repeat, 0, repeat, 0, 1);
        allAre(hall, WeaveHall.NONE);
    }

    static void aMillionIsTold() {
        firings(chain(20, 20, 20, 5, 5, 5), 1, 1, 20, 400, 8000, 40000, 200000, 1000000);
    }

    /** 999702 is the last below a million, 1000188 the first above it, that REPEATS can come to. */
    static void theLastBelowAMillionIsToldTheFirstAboveItIsNone() {
        int[] below = factors(999702);
        Due.due("below", chain(below).balance(below.length + 1), 999702);
        allAre(chain(factors(1000188)), WeaveHall.NONE);
    }

    private static int[] factors(int n) {
        int[] all = new int[20];
        int count = 0;
        int rest = n;
        for (int p = 2; p <= 19; p++) {
            while (rest % p == 0) {
                all[count++] = p;
                rest /= p;
            }
        }
        return Arrays.copyOf(all, count);
    }

    static void twoMillionAreNone() {
        allAre(chain(20, 20, 20, 5, 5, 5, 2), WeaveHall.NONE);
    }

    static void theNumberOfAnotherPartIsLookedAtToo() {
        WeaveHall hall = chain(20, 20, 20, 20, 20);
        int shift = hall.weaver(1, 0);
        hall.band(shift, 0, shift, 0, 1);
        allAre(hall, WeaveHall.NONE);
    }

    /** Only the SOURCES of a SUM have to fire so often: the ways bring 2 to the 20th and 3. */
    static void theSourcesNumberIsLookedAtToo() {
        allAre(manyAndThree(16, 16, 16, 16, 16), WeaveHall.NONE);
        WeaveHall hall = manyAndThree(16, 16, 16, 16);
        Due.due("SUM", hall.balance(0), 196608);
        Due.due("the SOURCE of 3", hall.balance(1), 65536);
    }

    /** SUM 0 fires 3 times for what comes once and what comes thrice; behind it REPEATS: only the last is above. */
    static void onlyTheLastNumberIsAboveAMillion() {
        allAre(thirdsAnd(20, 20, 20, 20, 5), WeaveHall.NONE);
        WeaveHall hall = thirdsAnd(20, 20, 20, 10, 4);
        Due.due("SUM", hall.balance(0), 3);
        Due.due("COLLECT", hall.balance(hall.count(0) - 1), 960000);
    }

    private static WeaveHall thirdsAnd(int... repeats) {
        WeaveHall hall = new WeaveHall();
        hall.weaver(6, 0);
        hall.weaver(2, 3);
        hall.band(1, 0, 0, 1, 1);
        hall.band(Due.source(hall), 0, 0, 0, 1);
        hall.band(Due.source(hall), 0, 1, 0, 1);
        int last = 0;
        for (int a : repeats) {
            int next = hall.weaver(2, a);
            hall.band(last, 0, next, 0, 1);
            last = next;
        }
        hall.band(last, 0, Due.collect(hall), 0, 1);
        return hall;
    }

    /** SUMS of ways that bring 16, 9, 5 and 7: the last fires 5040 times; by 11, 13, 17, 19 more it is too often. */
    static void theLeastNumberMayBeAboveAMillionThoughNoRateIs() {
        Due.due("5040", sums(new int[] {16, 9, 5, 7}, new int[] {1, 1, 1, 1}), 5040);
        Due.due("none", sums(new int[] {16, 9, 5, 7}, new int[] {11, 13, 17, 19}), WeaveHall.NONE);
    }

    private static int sums(int[] one, int[] two) {
        WeaveHall hall = new WeaveHall();
        int last = -1;
        for (int i = 0; i < one.length; i++) {
            int first = hall.weaver(2, one[i]);
            int second = hall.weaver(2, two[i]);
            hall.band(Due.source(hall), 0, first, 0, 1);
            hall.band(first, 0, second, 0, 1);
            int sum = i == 0 ? second : hall.weaver(6, 0);
            if (i > 0) {
                hall.band(last, 0, sum, 0, 1);
                hall.band(second, 0, sum, 1, 1);
            }
            last = sum;
        }
        hall.band(last, 0, Due.collect(hall), 0, 1);
        return hall.balance(last);
    }

    private static WeaveHall manyAndThree(int... repeats) {
        WeaveHall hall = new WeaveHall();
        hall.weaver(6, 0);
        Due.source(hall);
        int three = hall.weaver(2, 3);
        hall.band(1, 0, three, 0, 1);
        hall.band(three, 0, 0, 1, 1);
        int last = Due.source(hall);
        for (int a : repeats) {
            int next = hall.weaver(2, a);
            hall.band(last, 0, next, 0, 1);
            last = next;
        }
        hall.band(last, 0, 0, 0, 1);
        hall.band(0, 0, Due.collect(hall), 0, 1);
        return hall;
    }

    static void twentyToThe38thIsNone() {
        int[] many = new int[38];
        Arrays.fill(many, 20);
        allAre(chain(many), WeaveHall.NONE);
    }

    /** Numbers that no long holds: whatever they would go round to, none is told. */
    static void whatGoesBeyondTheLongsIsNone() {
        for (int a = 2; a <= 20; a++) {
            for (int length = 14; length <= 38; length++) {
                int[] many = new int[length];
                Arrays.fill(many, a);
                boolean told = length * Math.log(a) < Math.log(1000000.5);
                WeaveHall hall = chain(many);
                Due.due("the first of " + a + ", " + length, hall.balance(0), told ? 1 : WeaveHall.NONE);
                Due.due("seen from the end", fromTheEnd(length, a), told ? power(a, length) : WeaveHall.NONE);
            }
        }
    }

    private static int power(int a, int length) {
        int product = 1;
        for (int i = 0; i < length; i++) {
            product *= a;
        }
        return product;
    }

    /** COLLECT 0, the REPEATS, the SOURCE as the last one: the COLLECT's firings. */
    private static int fromTheEnd(int repeats, int a) {
        WeaveHall hall = new WeaveHall();
        Due.collect(hall);
        for (int i = 0; i < repeats; i++) {
            hall.weaver(2, a);
            hall.band(i + 1, 0, i, 0, 1);
        }
        hall.band(Due.source(hall), 0, repeats, 0, 1);
        return hall.balance(0);
    }

    static void aMillionSeenFromTheEnd() {
        Due.due("1000000", fromTheEnd(6, 10), 1000000);
        Due.due("10000000", fromTheEnd(7, 10), WeaveHall.NONE);
    }

    static void onceNoneItIsToldWhenTheNetIsAnother() {
        WeaveHall hall = chain(0);
        Due.due("not BALANCED", hall.balance(0), WeaveHall.NONE);
        hall.clear();
        Due.source(hall);
        hall.weaver(2, 3);
        Due.collect(hall);
        hall.band(0, 0, 1, 0, 1);
        Due.due("not WHOLE", hall.balance(0), WeaveHall.NOT);
        hall.band(1, 0, 2, 0, 1);
        firings(hall, 1, 1, 3);
    }

    static void fortyInARow() {
        int[] ones = new int[38];
        Arrays.fill(ones, 1);
        allAre(chain(ones), 1);
    }

    static void inARunItIsTheSame() {
        WeaveHall hall = chain(3, 2);
        hall.run(0, 1, 0);
        firings(hall, 1, 1, 3, 6);
        hall.run(0, 2000, 0);
        firings(hall, 1, 1, 3, 6);
    }

    static void toTellChangesNothing() {
        Twins.changesNothing("balance(0)", Nets::begun, hall -> hall.balance(0));
        Twins.changesNothing("balance(0)", () -> chain(3, 2), hall -> hall.balance(0));
        Twins.changesNothing("balance(0)", () -> chain(0), hall -> hall.balance(0));
    }

    /** Nets of FIXED rates at random, in any order, against whole numbers of any length. */
    static void atRandomAsReckonedHere() {
        Random random = new Random(17);
        int balanced = 0;
        for (int net = 0; net < 4000; net++) {
            balanced += new RandomNet(random).compare() ? 1 : 0;
        }
        Due.due("enough were BALANCED", balanced > 400 ? 1 : 0, 1);
    }

    /** WEAVERS, BANDS and rates of a net that is joined at random. */
    private static final class RandomNet {
        private final WeaveHall hall = new WeaveHall();
        private final Random random;
        private final int[] rate = new int[40];
        private final int[] from = new int[60];
        private final int[] to = new int[60];
        private int weavers;
        private int bands;

        RandomNet(Random random) {
            this.random = random;
            int[][] outs = new int[60][];
            int[][] ins = new int[60][];
            int outCount = 0;
            int inCount = 0;
            int wanted = 1 + random.nextInt(7);
            while (weavers < wanted || inCount != outCount) {
                int kind = FIXED_INNER[random.nextInt(FIXED_INNER.length)];
                if (weavers >= wanted) {
                    kind = inCount < outCount ? 9 : 0;
                }
                int a = kind == 2 ? 1 + random.nextInt(random.nextInt(9) == 0 ? 20 : 3) : 0;
                rate[weavers] = kind == 2 ? a : 1;
                hall.weaver(kind, a);
                for (int port = 0; port < Nets.OUTS[kind]; port++) {
                    outs[outCount++] = new int[] {weavers, port};
                }
                for (int port = 0; port < Nets.INS[kind]; port++) {
                    ins[inCount++] = new int[] {weavers, port};
                }
                weavers++;
            }
            join(outs, ins, inCount);
        }

        private void join(int[][] outs, int[][] ins, int count) {
            for (int left = count; left > 0; left--) {
                int out = random.nextInt(left);
                int in = random.nextInt(left);
                from[bands] = outs[out][0];
                to[bands] = ins[in][0];
                hall.band(outs[out][0], outs[out][1], ins[in][0], ins[in][1], 1);
                bands++;
                outs[out] = outs[left - 1];
                ins[in] = ins[left - 1];
            }
        }

        /** Firings as fractions top / bottom of each part's first WEAVER; then the least whole numbers. */
        boolean compare() {
            BigInteger[] top = new BigInteger[weavers];
            BigInteger[] bottom = new BigInteger[weavers];
            int[] part = new int[weavers];
            int parts = 0;
            for (int first = 0; first < weavers; first++) {
                if (top[first] == null) {
                    top[first] = BigInteger.ONE;
                    bottom[first] = BigInteger.ONE;
                    part[first] = parts;
                    spread(top, bottom, part, parts);
                    parts++;
                }
            }
            Due.due("parts", hall.count(6), parts);
            boolean agrees = true;
            for (int i = 0; i < bands; i++) {
                BigInteger brought = top[from[i]].multiply(BigInteger.valueOf(rate[from[i]])).multiply(bottom[to[i]]);
                agrees &= brought.equals(top[to[i]].multiply(bottom[from[i]]));
            }
            return tell(agrees ? whole(top, bottom, part) : null);
        }

        private void spread(BigInteger[] top, BigInteger[] bottom, int[] part, int number) {
            for (int round = 0; round < weavers; round++) {
                for (int i = 0; i < bands; i++) {
                    BigInteger written = BigInteger.valueOf(rate[from[i]]);
                    if (top[from[i]] != null && top[to[i]] == null) {
                        top[to[i]] = top[from[i]].multiply(written);
                        bottom[to[i]] = bottom[from[i]];
                        part[to[i]] = number;
                    } else if (top[from[i]] == null && top[to[i]] != null) {
                        top[from[i]] = top[to[i]];
                        bottom[from[i]] = bottom[to[i]].multiply(written);
                        part[from[i]] = number;
                    }
                }
            }
        }

        private BigInteger[] whole(BigInteger[] top, BigInteger[] bottom, int[] part) {
            BigInteger[] all = new BigInteger[weavers];
            for (int i = 0; i < weavers; i++) {
                BigInteger common = BigInteger.ONE;
                for (int k = 0; k < weavers; k++) {
                    common = part[k] == part[i] ? common.multiply(bottom[k]) : common;
                }
                all[i] = top[i].multiply(common).divide(bottom[i]);
            }
            BigInteger[] least = new BigInteger[weavers];
            for (int i = 0; i < weavers; i++) {
                BigInteger shared = BigInteger.ZERO;
                for (int k = 0; k < weavers; k++) {
                    shared = part[k] == part[i] ? shared.gcd(all[k]) : shared;
                }
                least[i] = all[i].divide(shared);
            }
            return least;
        }

        private boolean tell(BigInteger[] want) {
            BigInteger most = BigInteger.valueOf(1000000);
            boolean none = want == null;
            for (int i = 0; !none && i < weavers; i++) {
                none = want[i].compareTo(most) > 0;
            }
            for (int i = 0; i < weavers; i++) {
                Due.due("balance(" + i + ")", hall.balance(i), none ? WeaveHall.NONE : want[i].intValue());
            }
            return !none;
        }
    }
}
