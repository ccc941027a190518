import java.lang.reflect.InvocationTargetException;
import java.lang.reflect.Method;
import java.lang.reflect.Modifier;
import java.util.Arrays;
import java.util.Comparator;

/** What the project's tests share: answers against those that are due, cases by name, and parts of nets. */
final class Due {
    private static int looked = 0;
    private static int wrong = 0;
    private static String nameOfCase = "";

    private Due() {
    }

    static void due(String call, long got, long want) {
        looked++;
        if (got != want) {
            wrong++;
            System.out.println(nameOfCase + call + " answered " + got + ", due is " + want);
        }
    }

    static void dueAll(String call, long[] got, long... want) {
        due(call + " length", got.length, want.length);
        for (int i = 0; i < Math.min(got.length, want.length); i++) {
            due(call + " [" + i + "]", got[i], want[i]);
        }
    }

    static void end() {
        System.out.println(looked + " answers, " + wrong + " not as due");
        if (wrong != 0 || looked == 0) {
            System.exit(1);
        }
    }

    /** Does every case of a test: its static methods without parameters, each named after what it shows. */
    static void cases(Class<?> test) {
        Method[] all = test.getDeclaredMethods();
        Arrays.sort(all, Comparator.comparing(Method::getName));
        for (Method one : all) {
            boolean isCase = Modifier.isStatic(one.getModifiers()) && one.getParameterCount() == 0
                && one.getReturnType() == void.class && !one.isSynthetic();
            if (isCase) {
                doCase(test, one);
            }
        }
        end();
    }

    private static void doCase(Class<?> test, Method one) {
        nameOfCase = test.getSimpleName() + "." + one.getName() + ": ";
        int before = looked;
        try {
            one.setAccessible(true);
            one.invoke(null);
        } catch (InvocationTargetException | IllegalAccessException thrown) {
            wrong++;
            System.out.println(nameOfCase + "threw " + thrown.getCause());
        }
        if (looked == before) {
            wrong++;
            System.out.println(nameOfCase + "looked at nothing");
        }
    }

    static int source(WeaveHall hall, long... feed) {
        int number = hall.weaver(0, 0);
        for (long v : feed) {
            hall.feed(number, v);
        }
        return number;
    }

    static int collect(WeaveHall hall) {
        return hall.weaver(9, 0);
    }

    /** A SCRIPT of STEPS that are told as step, a, b, step, a, b, .. */
    static int script(WeaveHall hall, int... steps) {
        int number = hall.weaver(13, 0);
        for (int i = 0; i + 2 < steps.length; i += 3) {
            hall.step(number, steps[i], steps[i + 1], steps[i + 2]);
        }
        return number;
    }

    /** Does single ACTS until no WEAVER can go on: how many. */
    static int untilStill(WeaveHall hall, int way) {
        for (int acts = 0; acts < 1000; acts++) {
            boolean still = hall.count(5) == 1;
            for (int i = 0; i < hall.count(0); i++) {
                still = still && hall.told(i, 1) != 0;
            }
            if (still) {
                return acts;
            }
            hall.run(way, 1, 0);
        }
        return -1;
    }

    static long[] cloth(WeaveHall hall, int collect) {
        long[] all = new long[hall.told(collect, 5)];
        for (int i = 0; i < all.length; i++) {
            all[i] = hall.woven(collect, i);
        }
        return all;
    }

    static long[] past(WeaveHall hall, int band) {
        long[] all = new long[hall.bandTold(band, 3)];
        for (int i = 0; i < all.length; i++) {
            all[i] = hall.history(band, i);
        }
        return all;
    }
}
