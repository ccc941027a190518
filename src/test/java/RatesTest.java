/** Promises 17 and 18: balance, count. */
public final class RatesTest {
    private static final int[] INS = {0, 1, 1, 1, 2, 1, 2, 3, 1, 1, 1, 1, 1, 2};
    private static final int[] OUTS = {1, 1, 1, 1, 1, 2, 1, 1, 2, 0, 1, 1, 1, 2};

    public static void main(String[] args) {
        fixedOrNot();
        firings();
        backwards();
        leastOfEachPart();
        anyOrder();
        notBalanced();
        aboveAMillion();
        counts();
        Due.end();
    }

    private static WeaveHall chain(int... repeats) {
        WeaveHall hall = new WeaveHall();
        joinChain(hall, repeats);
        return hall;
    }

    private static void joinChain(WeaveHall hall, int... repeats) {
        Due.source(hall);
        for (int a : repeats) {
            hall.weaver(2, a);
        }
        Due.collect(hall);
        for (int i = 0; i <= repeats.length; i++) {
            hall.band(i, 0, i + 1, 0, 1);
        }
    }

    private static void fixedOrNot() {
        WeaveHall hall = new WeaveHall();
        Due.source(hall);
        Due.due("not WHOLE", hall.balance(0), WeaveHall.NOT);
        Due.due("BAD ahead of NOT", hall.balance(1), WeaveHall.BAD);
        Due.due("BAD", hall.balance(-1), WeaveHall.BAD);
        for (int kind = 1; kind < 14; kind++) {
            boolean fixed = kind < 4 || kind == 6 || kind >= 8 && kind <= 10;
            WeaveHall all = whole(kind);
            Due.due("WHOLE with KIND " + kind, all.count(4), 1);
            Due.due("KIND " + kind, all.balance(0), fixed ? 1 : WeaveHall.NOT);
        }
    }

    /** A net of one WEAVER of a KIND with SOURCES and COLLECTS at all its PORTS. */
    private static WeaveHall whole(int kind) {
        WeaveHall hall = new WeaveHall();
        hall.weaver(kind, 1);
        for (int port = 0; port < INS[kind]; port++) {
            hall.band(Due.source(hall), 0, 0, port, 1);
        }
        for (int port = 0; port < OUTS[kind]; port++) {
            hall.band(0, port, Due.collect(hall), 0, 1);
        }
        return hall;
    }

    private static void firings() {
        WeaveHall hall = chain(3, 2, 5);
        int[] want = {1, 1, 3, 6, 30};
        for (int i = 0; i < want.length; i++) {
            Due.due("firings of " + i, hall.balance(i), want[i]);
        }
        hall.run(0, 1, 0);
        Due.due("in a RUN", hall.balance(4), 30);
        Due.due("it changes nothing", hall.count(2), 1);

        hall = new WeaveHall();
        hall.weaver(3, 1);
        hall.weaver(8, 0);
        hall.weaver(10, 0);
        Due.collect(hall);
        hall.band(0, 0, 1, 0, 1);
        hall.band(1, 0, 0, 0, 1);
        hall.band(1, 1, 2, 0, 1);
        hall.band(2, 0, 3, 0, 1);
        for (int i = 0; i < 4; i++) {
            Due.due("a ring", hall.balance(i), 1);
        }
    }

    /** SUM of a line that REPEATS 4 times and one that does 6 times: SOURCES fire 3 and 2 times. */
    private static void backwards() {
        WeaveHall hall = new WeaveHall();
        hall.weaver(6, 0);
        hall.weaver(2, 4);
        hall.weaver(2, 6);
        Due.source(hall);
        Due.source(hall);
        Due.collect(hall);
        hall.band(1, 0, 0, 0, 1);
        hall.band(2, 0, 0, 1, 1);
        hall.band(3, 0, 1, 0, 1);
        hall.band(4, 0, 2, 0, 1);
        hall.band(0, 0, 5, 0, 1);
        int[] want = {12, 3, 2, 3, 2, 12};
        for (int i = 0; i < want.length; i++) {
            Due.due("firings of " + i, hall.balance(i), want[i]);
        }
    }

    private static void leastOfEachPart() {
        WeaveHall hall = new WeaveHall();
        // WEAVERS of two parts by turns: SOURCE, SOURCE, REPEAT 2, REPEAT 3, COLLECT, COLLECT
        Due.source(hall);
        Due.source(hall);
        hall.weaver(2, 2);
        hall.weaver(2, 3);
        Due.collect(hall);
        Due.collect(hall);
        hall.band(0, 0, 2, 0, 1);
        hall.band(1, 0, 3, 0, 1);
        hall.band(2, 0, 4, 0, 1);
        hall.band(3, 0, 5, 0, 1);
        int[] want = {1, 1, 1, 1, 2, 3};
        for (int i = 0; i < want.length; i++) {
            Due.due("firings of " + i, hall.balance(i), want[i]);
        }
        Due.due("parts", hall.count(6), 2);

        // SUM 0 of SOURCES by 4 and by 6 is one part, a chain the other: neither changes the other's numbers
        hall = new WeaveHall();
        hall.weaver(6, 0);
        hall.weaver(2, 4);
        hall.weaver(2, 6);
        Due.source(hall);
        Due.source(hall);
        Due.collect(hall);
        Due.source(hall);
        hall.weaver(2, 5);
        Due.collect(hall);
        hall.band(1, 0, 0, 0, 1);
        hall.band(2, 0, 0, 1, 1);
        hall.band(3, 0, 1, 0, 1);
        hall.band(4, 0, 2, 0, 1);
        hall.band(0, 0, 5, 0, 1);
        hall.band(6, 0, 7, 0, 1);
        hall.band(7, 0, 8, 0, 1);
        want = new int[] {12, 3, 2, 3, 2, 12, 1, 1, 5};
        for (int i = 0; i < want.length; i++) {
            Due.due("firings of " + i, hall.balance(i), want[i]);
        }
    }

    /** BANDS made in either order, the SOURCE first or last: the numbers are the same. */
    private static void anyOrder() {
        for (int order = 0; order < 4; order++) {
            WeaveHall hall = new WeaveHall();
            boolean sourceFirst = order % 2 == 0;
            for (int i = 0; i < 8; i++) {
                int place = sourceFirst ? i : 7 - i;
                hall.weaver(place == 0 ? 0 : place == 7 ? 9 : 2, 2);
            }
            for (int i = 0; i < 7; i++) {
                int place = order < 2 ? i : 6 - i;
                hall.band(sourceFirst ? place : 7 - place, 0, sourceFirst ? place + 1 : 6 - place, 0, 1);
            }
            for (int place = 0; place < 8; place++) {
                Due.due("firings, order " + order, hall.balance(sourceFirst ? place : 7 - place),
                    place == 0 ? 1 : 1 << (place - 1));
            }
        }
    }

    private static void notBalanced() {
        WeaveHall hall = chain(3, 0, 2);
        for (int i = 0; i < 5; i++) {
            Due.due("REPEAT 0", hall.balance(i), WeaveHall.NONE);
        }
        hall = new WeaveHall();
        hall.weaver(2, 0);
        hall.band(0, 0, 0, 0, 1);
        Due.due("REPEAT 0 to itself", hall.balance(0), WeaveHall.NONE);
        hall.clear();
        hall.weaver(2, 2);
        hall.band(0, 0, 0, 0, 1);
        Due.due("REPEAT 2 to itself", hall.balance(0), WeaveHall.NONE);
        hall.clear();
        hall.weaver(2, 1);
        hall.band(0, 0, 0, 0, 1);
        Due.due("REPEAT 1 to itself", hall.balance(0), 1);
        // a part that is not BALANCED: none of the net is
        hall.weaver(2, 3);
        hall.band(1, 0, 1, 0, 1);
        Due.due("of the other part", hall.balance(0), WeaveHall.NONE);
        // what could not be told once is told when the net has become another
        hall.clear();
        joinChain(hall, 3, 0, 2);
        Due.due("REPEAT 0", hall.balance(0), WeaveHall.NONE);
        hall.clear();
        joinChain(hall, 3, 2);
        Due.due("REPEAT 3, 2", hall.balance(3), 6);
    }

    private static void aboveAMillion() {
        Due.due("1000000", chain(20, 20, 20, 5, 5, 5).balance(7), 1000000);
        Due.due("its first", chain(20, 20, 20, 5, 5, 5).balance(0), 1);
        WeaveHall more = chain(20, 20, 20, 5, 5, 5, 1, 2);
        for (int i = 0; i < 10; i++) {
            Due.due("2000000 of the last one", more.balance(i), WeaveHall.NONE);
        }
        int[] many = new int[38];
        java.util.Arrays.fill(many, 20);
        Due.due("twenty to the 38th", chain(many).balance(0), WeaveHall.NONE);
        Due.due("seen from the end", fromTheEnd(38, 20), WeaveHall.NONE);
        Due.due("seen from the end, 1000000", fromTheEnd(6, 10), 1000000);
        Due.due("seen from the end, 10000000", fromTheEnd(7, 10), WeaveHall.NONE);
        Due.due("SUMS of 16, 9, 5 and 7", sums(new int[] {16, 9, 5, 7}, new int[] {1, 1, 1, 1}), 5040);
        Due.due("no least number that may be told", sums(new int[] {16, 9, 5, 7}, new int[] {11, 13, 17, 19}),
            WeaveHall.NONE);
        Due.due("only the last one is above", thirds(20, 20, 20, 20, 5), WeaveHall.NONE);
        Due.due("none is above", thirds(20, 20, 20, 10, 4), 960000);
        WeaveHall apart = chain(20, 20, 20, 20, 20);
        int repeat = apart.weaver(2, 1);
        apart.band(repeat, 0, repeat, 0, 1);
        Due.due("another part's number", apart.balance(repeat), WeaveHall.NONE);
    }

    /** COLLECT is WEAVER 0, the SOURCE the last one: the COLLECT's firings. */
    private static int fromTheEnd(int repeats, int a) {
        WeaveHall hall = new WeaveHall();
        Due.collect(hall);
        for (int i = 0; i < repeats; i++) {
            hall.weaver(2, a);
            hall.band(i + 1, 0, i, 0, 1);
        }
        hall.band(Due.source(hall), 0, repeats, 0, 1);
        return hall.balance(0);
    }

    /** SUM 0 of a SOURCE and of one that REPEATS 3 times, then a chain of REPEATS: the COLLECT's firings. */
    private static int thirds(int... repeats) {
        WeaveHall hall = new WeaveHall();
        hall.weaver(6, 0);
        hall.weaver(2, 3);
        hall.band(1, 0, 0, 1, 1);
        hall.band(Due.source(hall), 0, 0, 0, 1);
        hall.band(Due.source(hall), 0, 1, 0, 1);
        int last = 0;
        for (int a : repeats) {
            int next = hall.weaver(2, a);
            hall.band(last, 0, next, 0, 1);
            last = next;
        }
        int collect = Due.collect(hall);
        hall.band(last, 0, collect, 0, 1);
        return hall.balance(collect);
    }

    /** SUMS of lines that REPEAT by two numbers each: the firings of the last SUM. */
    private static int sums(int[] a, int[] b) {
        WeaveHall hall = new WeaveHall();
        int last = -1;
        for (int i = 0; i < a.length; i++) {
            int source = Due.source(hall);
            int one = hall.weaver(2, a[i]);
            int two = hall.weaver(2, b[i]);
            hall.band(source, 0, one, 0, 1);
            hall.band(one, 0, two, 0, 1);
            if (last < 0) {
                last = two;
                continue;
            }
            int sum = hall.weaver(6, 0);
            hall.band(last, 0, sum, 0, 1);
            hall.band(two, 0, sum, 1, 1);
            last = sum;
        }
        hall.band(last, 0, Due.collect(hall), 0, 1);
        return hall.balance(last);
    }

    private static void counts() {
        WeaveHall hall = new WeaveHall();
        Due.due("count(-1)", hall.count(-1), WeaveHall.BAD);
        Due.due("count(7)", hall.count(7), WeaveHall.BAD);
        for (int i = 0; i < 40; i++) {
            hall.weaver(13, 0);
            Due.due("WEAVERS", hall.count(0), i + 1);
            Due.due("parts", hall.count(6), i + 1);
            Due.due("WHOLE", hall.count(4), 0);
        }
        // joined from the far end, and against the order of the numbers
        for (int i = 0; i < 39; i++) {
            hall.band(38 - i, 0, 39 - i, 0, 1);
            Due.due("BANDS", hall.count(1), i + 1);
            Due.due("parts", hall.count(6), 39 - i);
        }
        hall.band(5, 1, 5, 1, 1);
        Due.due("parts", hall.count(6), 1);
        hall.clear();
        Due.due("parts of nothing", hall.count(6), 0);
        // 0 - 3, 1 - 2, then 2 - 3
        for (int i = 0; i < 4; i++) {
            hall.weaver(8, 0);
        }
        hall.band(3, 0, 0, 0, 1);
        hall.band(1, 0, 2, 0, 1);
        Due.due("two parts", hall.count(6), 2);
        hall.band(2, 1, 3, 0, 1);
        Due.due("one part", hall.count(6), 1);
    }
}
