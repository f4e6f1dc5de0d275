import java.lang.reflect.InvocationTargetException;
import java.lang.reflect.Method;
import java.util.ArrayList;
import java.util.Arrays;
import java.util.Comparator;
import java.util.List;
import java.util.function.Supplier;

/**
 * What the tests of the document's edges share: tests that are found by their names, answers that are
 * due, refused calls, and objects to try them on.
 */
final class Edges {
    static final int LOW = Integer.MIN_VALUE;
    static final int HIGH = Integer.MAX_VALUE;
    static final Class<?> INDEX = IndexOutOfBoundsException.class;
    static final Class<?> ARGUMENT = IllegalArgumentException.class;
    static final Class<?> STATE = IllegalStateException.class;

    /** Numbers that are far off, or would be allowed if some of their bits got lost. */
    static final int[] FAR_OFF = {LOW, LOW + 1, LOW + 5, HIGH, HIGH - 1, -2, -3, -5, -59, -63, -64, -65, -255, -256,
        101, 127, 128, 133, 256, 257, 261, 65536, 65537, 65541, 1 << 30, (1 << 30) + 1, 3 << 30, 1431655766,
        858993460, -1431655765};

    interface Call {
        long on(SlipLevels x);
    }

    interface CallWith {
        long on(SlipLevels x, int value);
    }

    private static String test = "";
    private static int wrong = 0;

    private Edges() {
    }

    // ---- tests

    /** Runs each method of a class whose name starts with "promise" and a number of these. */
    static void runAll(Class<?> tests, int first, int last) {
        int[] found = new int[last + 1];
        List<Method> methods = new ArrayList<>(Arrays.asList(tests.getDeclaredMethods()));
        methods.sort(Comparator.comparingInt(Edges::promiseOf).thenComparing(Method::getName));
        int ran = 0;
        for (Method method : methods) {
            int promise = promiseOf(method);
            if (promise >= first && promise <= last) {
                found[promise]++;
                ran++;
                runOne(method);
            }
        }
        for (int promise = first; promise <= last; promise++) {
            if (found[promise] == 0) {
                fault("promise " + promise + " has no test");
            }
        }
        System.out.println(ran + " tests of edges ran, " + wrong + " faults");
        if (wrong != 0) {
            System.exit(1);
        }
    }

    private static int promiseOf(Method method) {
        String name = method.getName();
        if (!name.matches("promise[0-9]+[A-Z].*")) {
            return -1;
        }
        return Integer.parseInt(name.replaceAll("promise([0-9]+).*", "$1"));
    }

    private static void runOne(Method method) {
        test = method.getName();
        try {
            method.invoke(null);
        } catch (InvocationTargetException e) {
            fault("threw " + e.getCause());
        } catch (IllegalAccessException e) {
            fault("can't be run: " + e);
        }
    }

    private static void fault(String text) {
        wrong++;
        System.out.println(test + ": " + text);
    }

    static void same(String what, Object got, Object due) {
        if (!got.equals(due)) {
            fault(what + ": got " + got + ", due " + due);
        }
    }

    static void same(String what, long got, long due) {
        same(what, (Object) got, (Object) due);
    }

    // ---- objects to try calls on

    /** Binds slips, given as numbers and words in turn, of which -1 is a tomb; the desk must be empty. */
    static SlipLevels bound(SlipLevels x, int... slips) {
        int room = x.setRoom(8);
        for (int at = 0; at + 1 < slips.length; at += 2) {
            put(x, slips[at], slips[at + 1]);
        }
        x.bind();
        x.setRoom(room);
        return x;
    }

    /** Writes slips on the desk, given as for bound. */
    static SlipLevels put(SlipLevels x, int... slips) {
        for (int at = 0; at + 1 < slips.length; at += 2) {
            if (slips[at + 1] < 0) {
                x.strike(slips[at]);
            } else {
                x.write(slips[at], slips[at + 1]);
            }
        }
        return x;
    }

    /** Makes a run of a level; the levels above it must be empty. */
    static SlipLevels laid(SlipLevels x, int level, int... slips) {
        bound(x, slips);
        for (int above = 0; above < level; above++) {
            x.merge(above);
        }
        return x;
    }

    static SlipLevels fresh() {
        return new SlipLevels();
    }

    /** A desk and three runs: 2, 10 and 40 hide one another. */
    static SlipLevels layered() {
        SlipLevels x = laid(fresh(), 1, 2, 11, 10, 12, 18, 13, 40, 14);
        bound(x, 2, 21, 10, -1, 26, 22);
        bound(x, 1, 31, 3, 32, 34, 33);
        return put(x, 2, 41, 40, -1);
    }

    /** Two runs on each level and a desk one short of its room: any slip or run more moves all. */
    static SlipLevels brim() {
        SlipLevels x = fresh();
        for (int level = 3; level >= 0; level--) {
            laid(x, level, 0, level, 16 + level, 50, 63, 9);
            laid(x, level, 1 + level, 77, 16 + level, -1, 24 + 8 * level, -1);
        }
        x.read(48);
        return put(x, 5, 55, 6, -1, 61, 1);
    }

    /** One run of all 64 numbers, whose words are 36 to 99. */
    static SlipLevels whole() {
        SlipLevels x = fresh();
        x.setRoom(8);
        for (int number = 0; number < 64; number++) {
            x.write(number, 36 + number);
        }
        x.merge(0);
        x.setRoom(4);
        return x;
    }

    static final List<Supplier<SlipLevels>> STATES = List.of(Edges::fresh, Edges::layered, Edges::brim);

    // ---- what an object tells

    /** All that can be told without a change, from no more than some 330 calls. */
    static String told(SlipLevels x) {
        StringBuilder all = new StringBuilder("counts");
        for (int what = 0; what < 7; what++) {
            all.append(' ').append(x.count(what));
        }
        all.append(" desk");
        for (int place = 0; place < x.count(0); place++) {
            all.append(' ').append(x.desk(place));
        }
        for (int level = 0; level < 4; level++) {
            all.append(" level ").append(level).append(' ').append(x.spares(level));
            toldOfLevel(x, level, all);
        }
        all.append(" numbers");
        for (int number = 0; number < 64; number++) {
            all.append(' ').append(x.detours(number)).append('/').append(x.sum(number, number));
        }
        all.append(' ').append(words(x)).append(' ').append(x.advise()).append(' ').append(x.mean());
        return all.append(' ').append(x.digest()).toString();
    }

    private static void toldOfLevel(SlipLevels x, int level, StringBuilder all) {
        for (int what = 0; what < 3; what++) {
            all.append(' ').append(x.level(level, what));
        }
        for (int run = 0; run < x.level(level, 0); run++) {
            all.append(" run");
            for (int what = 0; what < 6; what++) {
                all.append(' ').append(x.run(level, run, what));
            }
            all.append(" slips ").append(slips(x, level, run));
        }
    }

    /** The slips of a run, as slip() tells them. */
    static List<Integer> slips(SlipLevels x, int level, int run) {
        List<Integer> all = new ArrayList<>();
        int size = x.run(level, run, 0);
        for (int place = 0; place < size; place++) {
            all.add(x.slip(level, run, place));
        }
        return all;
    }

    static List<Integer> desk(SlipLevels x) {
        List<Integer> all = new ArrayList<>();
        int size = x.count(0);
        for (int place = 0; place < size; place++) {
            all.add(x.desk(place));
        }
        return all;
    }

    static List<Integer> runs(SlipLevels x) {
        return List.of(x.level(0, 0), x.level(1, 0), x.level(2, 0), x.level(3, 0));
    }

    static List<Integer> counts(SlipLevels x) {
        List<Integer> all = new ArrayList<>();
        for (int what = 0; what < 7; what++) {
            all.add(x.count(what));
        }
        return all;
    }

    /** The facts of a run, as run() tells them. */
    static List<Integer> facts(SlipLevels x, int level, int run) {
        List<Integer> all = new ArrayList<>();
        for (int what = 0; what < 6; what++) {
            all.add(x.run(level, run, what));
        }
        return all;
    }

    /** The numbers for which words stand, as next() tells them. */
    static List<Integer> words(SlipLevels x) {
        List<Integer> all = new ArrayList<>();
        int number = x.next(0);
        while (number >= 0 && all.size() < 64) {
            all.add(number);
            number = number == 63 ? -1 : x.next(number + 1);
        }
        return all;
    }

    // ---- refused calls

    static String thrown(SlipLevels x, Call call) {
        try {
            return "answered " + call.on(x);
        } catch (RuntimeException e) {
            return "threw " + e.getClass().getName();
        }
    }

    /** The call must throw this very class in each of the states, and change nothing. */
    static void refused(Class<?> due, Call call) {
        for (Supplier<SlipLevels> state : STATES) {
            refusedOn(state, due, call);
        }
    }

    /** The call must be refused with each of these values in each of the states. */
    static void refused(int[] values, Class<?> due, CallWith call) {
        for (int value : values) {
            refused(due, x -> call.on(x, value));
        }
    }

    /** The call must throw this very class; a twin without it must tell the same, and go on as it does. */
    static void refusedOn(Supplier<SlipLevels> state, Class<?> due, Call call) {
        SlipLevels x = state.get();
        same("refused", thrown(x, call), "threw " + due.getName());
        asTwin(x, state.get());
    }

    /** The call must answer this, and change nothing. */
    static void unchangedBy(Supplier<SlipLevels> state, long due, Call call) {
        SlipLevels x = state.get();
        same("answer", thrown(x, call), "answered " + due);
        asTwin(x, state.get());
    }

    static void asTwin(SlipLevels x, SlipLevels twin) {
        same("all that is told", told(x), told(twin));
        same("a slip more binds", x.write(7, 70), twin.write(7, 70));
        same("moves of binding", x.bind(), twin.bind());
        same("a read", x.read(16), twin.read(16));
        same("the room before", x.setRoom(2), twin.setRoom(2));
        same("a tomb more binds", x.strike(7), twin.strike(7));
        same("what comes of it", x.digest(), twin.digest());
    }
}
