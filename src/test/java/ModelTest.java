import java.util.ArrayList;
import java.util.List;
import java.util.TreeMap;

/**
 * Runs of 512 calls, drawn from a fixed sequence, on the program and on a slow model that follows
 * the document's words; every answer and every exception must be the same, and a digest at last.
 */
public final class ModelTest {
    private static final int RUNS = 400;
    private static final int CALLS = 512;

    private static int wrong = 0;

    /** A fixed sequence of numbers, so that every time the same runs are made. */
    private static final class Draw {
        private long state;

        Draw(long seed) {
            state = seed * 0x9E3779B97F4A7C15L + 12345;
        }

        int below(int bound) {
            state = state * 6364136223846793005L + 1442695040888963407L;
            return (int) ((state >>> 33) % bound);
        }
    }

    /** The document in maps: a word for a number, -1 for a tomb; the latest run is the first. */
    private static final class Model {
        TreeMap<Integer, Integer> desk = new TreeMap<>();
        List<List<TreeMap<Integer, Integer>>> levels = new ArrayList<>();
        int room = 4;
        int moves = 0;
        int detours = 0;
        int mergings = 0;

        Model() {
            for (int level = 0; level < 4; level++) {
                levels.add(new ArrayList<>());
            }
        }

        Model copy() {
            Model other = new Model();
            other.desk.putAll(desk);
            for (int level = 0; level < 4; level++) {
                for (TreeMap<Integer, Integer> run : levels.get(level)) {
                    other.levels.get(level).add(new TreeMap<>(run));
                }
            }
            return other;
        }

        static void index(boolean fine) {
            if (!fine) {
                throw new IndexOutOfBoundsException();
            }
        }

        static void argument(boolean fine) {
            if (!fine) {
                throw new IllegalArgumentException();
            }
        }

        static boolean in(int x, int least, int most) {
            return least <= x && x <= most;
        }

        long write(int number, int word) {
            index(in(number, 0, 63));
            argument(in(word, 0, 99));
            return lay(number, word);
        }

        long strike(int number) {
            index(in(number, 0, 63));
            return lay(number, -1);
        }

        long lay(int number, int word) {
            desk.put(number, word);
            if (desk.size() >= room) {
                bind();
                return 1;
            }
            return 0;
        }

        long bind() {
            int before = moves;
            if (!desk.isEmpty()) {
                levels.get(0).add(0, desk);
                moves += desk.size();
                desk = new TreeMap<>();
                settle();
            }
            return moves - before;
        }

        void settle() {
            for (int level = 0; level < 4; level++) {
                if (levels.get(level).size() >= 3) {
                    mergeOnly(level);
                }
            }
        }

        void mergeOnly(int level) {
            boolean tombs = false;
            for (int behind = level + 1; behind < 4; behind++) {
                tombs |= !levels.get(behind).isEmpty();
            }
            TreeMap<Integer, Integer> one = new TreeMap<>();
            for (TreeMap<Integer, Integer> run : levels.get(level)) {
                run.forEach(one::putIfAbsent);
            }
            if (!tombs) {
                one.values().removeIf(word -> word == -1);
            }
            levels.get(level).clear();
            if (!one.isEmpty()) {
                levels.get(Math.min(3, level + 1)).add(0, one);
            }
            moves += one.size();
            mergings++;
        }

        long merge(int level) {
            index(in(level, 0, 3));
            if (levels.get(level).isEmpty()) {
                throw new IllegalStateException();
            }
            int before = moves;
            mergeOnly(level);
            settle();
            return moves - before;
        }

        long setRoom(int to) {
            argument(in(to, 1, 8));
            int before = room;
            room = to;
            if (desk.size() >= room) {
                bind();
            }
            return before;
        }

        List<TreeMap<Integer, Integer>> inOrder() {
            List<TreeMap<Integer, Integer>> all = new ArrayList<>();
            all.add(desk);
            levels.forEach(all::addAll);
            return all;
        }

        int word(int number) {
            for (TreeMap<Integer, Integer> slips : inOrder()) {
                if (slips.containsKey(number)) {
                    return slips.get(number);
                }
            }
            return -1;
        }

        static int sieve(TreeMap<Integer, Integer> run) {
            boolean[] open = new boolean[8];
            for (int number : run.keySet()) {
                open[number % 8] = true;
            }
            int bits = 0;
            for (int hole = 7; hole >= 0; hole--) {
                bits = bits * 2 + (open[hole] ? 1 : 0);
            }
            return bits;
        }

        int detoursOf(int number) {
            if (desk.containsKey(number)) {
                return 0;
            }
            int detours = 0;
            for (List<TreeMap<Integer, Integer>> runs : levels) {
                for (TreeMap<Integer, Integer> run : runs) {
                    boolean inside = run.firstKey() <= number && number <= run.lastKey();
                    if (inside && (sieve(run) & 1 << number % 8) != 0) {
                        detours++;
                        if (run.containsKey(number)) {
                            return detours;
                        }
                    }
                }
            }
            return detours;
        }

        int allDetours() {
            int total = 0;
            for (int number = 0; number < 64; number++) {
                total += detoursOf(number);
            }
            return total;
        }

        long read(int number) {
            index(in(number, 0, 63));
            detours += detoursOf(number);
            return word(number);
        }

        long detours(int number) {
            index(in(number, 0, 63));
            return detoursOf(number);
        }

        long next(int number) {
            index(in(number, 0, 63));
            for (int at = number; at < 64; at++) {
                if (word(at) >= 0) {
                    return at;
                }
            }
            return -1;
        }

        long sum(int from, int to) {
            index(in(from, 0, 63) && in(to, 0, 63));
            argument(from <= to);
            long total = 0;
            for (int number = from; number <= to; number++) {
                total += Math.max(0, word(number));
            }
            return total;
        }

        TreeMap<Integer, Integer> runAt(int level, int run) {
            index(in(level, 0, 3));
            index(in(run, 0, levels.get(level).size() - 1));
            return levels.get(level).get(run);
        }

        static int tombs(TreeMap<Integer, Integer> run) {
            return (int) run.values().stream().filter(word -> word == -1).count();
        }

        int standing(TreeMap<Integer, Integer> run) {
            int standing = 0;
            for (int number : run.keySet()) {
                for (TreeMap<Integer, Integer> slips : inOrder()) {
                    if (slips.containsKey(number)) {
                        standing += slips == run ? 1 : 0;
                        break;
                    }
                }
            }
            return standing;
        }

        long run(int level, int run, int what) {
            TreeMap<Integer, Integer> slips = runAt(level, run);
            index(in(what, 0, 5));
            int[] facts = {slips.size(), slips.firstKey(), slips.lastKey(), sieve(slips), tombs(slips),
                standing(slips)};
            return facts[what];
        }

        static long told(TreeMap<Integer, Integer> slips, int place) {
            index(in(place, 0, slips.size() - 1));
            int number = new ArrayList<>(slips.keySet()).get(place);
            int word = slips.get(number);
            return word == -1 ? -1 - number : 100 * number + word;
        }

        long slip(int level, int run, int place) {
            return told(runAt(level, run), place);
        }

        long desk(int place) {
            return told(desk, place);
        }

        long level(int level, int what) {
            index(in(level, 0, 3) && in(what, 0, 2));
            int[] facts = {levels.get(level).size(), 0, 0};
            for (TreeMap<Integer, Integer> run : levels.get(level)) {
                facts[1] += run.size();
                facts[2] += tombs(run);
            }
            return facts[what];
        }

        int allSlips() {
            return levels.stream().flatMap(List::stream).mapToInt(TreeMap::size).sum();
        }

        long count(int what) {
            index(in(what, 0, 6));
            int words = 0;
            for (int number = 0; number < 64; number++) {
                words += word(number) >= 0 ? 1 : 0;
            }
            int[] counts = {desk.size(), room, allSlips(), words, moves, detours, mergings};
            return counts[what];
        }

        long spares(int level) {
            index(in(level, 0, 3));
            if (levels.get(level).isEmpty()) {
                return -1;
            }
            Model other = copy();
            other.merge(level);
            return allSlips() - other.allSlips();
        }

        long advise() {
            int best = -1;
            int fewest = Integer.MAX_VALUE;
            for (int level = 0; level < 4; level++) {
                if (!levels.get(level).isEmpty()) {
                    Model other = copy();
                    other.merge(level);
                    if (other.allDetours() < fewest) {
                        fewest = other.allDetours();
                        best = level;
                    }
                }
            }
            return best;
        }

        long mean() {
            return Double.doubleToLongBits(allDetours() / 64.0);
        }

        long digest() {
            List<Long> all = new ArrayList<>();
            for (int what = 0; what < 7; what++) {
                all.add(count(what));
            }
            for (int place = 0; place < desk.size(); place++) {
                all.add(desk(place));
            }
            for (int level = 0; level < 4; level++) {
                all.add(level(level, 0));
                for (int run = 0; run < levels.get(level).size(); run++) {
                    for (int what = 0; what < 6; what++) {
                        all.add(run(level, run, what));
                    }
                    for (int place = 0; place < levels.get(level).get(run).size(); place++) {
                        all.add(slip(level, run, place));
                    }
                }
            }
            for (int number = 0; number < 64; number++) {
                all.add((long) word(number));
            }
            long d = 1493;
            for (long x : all) {
                d = d * 31 + x;
            }
            return d;
        }
    }

    /** One call: its kind and arguments, as drawn. */
    private static final class Call {
        final int kind;
        final int a;
        final int b;
        final int c;

        Call(int kind, int a, int b, int c) {
            this.kind = kind;
            this.a = a;
            this.b = b;
            this.c = c;
        }

        String text() {
            String[] names = {"write", "strike", "bind", "merge", "setRoom", "read", "detours", "next", "sum",
                "run", "slip", "desk", "level", "count", "spares", "advise", "mean", "digest"};
            return names[kind] + "(" + a + ", " + b + ", " + c + ")";
        }

        long on(SlipLevels x) {
            switch (kind) {
                case 0: return x.write(a, b) ? 1 : 0;
                case 1: return x.strike(a) ? 1 : 0;
                case 2: return x.bind();
                case 3: return x.merge(a);
                case 4: return x.setRoom(a);
                case 5: return x.read(a);
                case 6: return x.detours(a);
                case 7: return x.next(a);
                case 8: return x.sum(a, b);
                case 9: return x.run(a, b, c);
                case 10: return x.slip(a, b, c);
                case 11: return x.desk(a);
                case 12: return x.level(a, b);
                case 13: return x.count(a);
                case 14: return x.spares(a);
                case 15: return x.advise();
                case 16: return Double.doubleToLongBits(x.mean());
                default: return x.digest();
            }
        }

        long on(Model x) {
            switch (kind) {
                case 0: return x.write(a, b);
                case 1: return x.strike(a);
                case 2: return x.bind();
                case 3: return x.merge(a);
                case 4: return x.setRoom(a);
                case 5: return x.read(a);
                case 6: return x.detours(a);
                case 7: return x.next(a);
                case 8: return x.sum(a, b);
                case 9: return x.run(a, b, c);
                case 10: return x.slip(a, b, c);
                case 11: return x.desk(a);
                case 12: return x.level(a, b);
                case 13: return x.count(a);
                case 14: return x.spares(a);
                case 15: return x.advise();
                case 16: return x.mean();
                default: return x.digest();
            }
        }
    }

    private static String answer(Call call, SlipLevels x) {
        try {
            return Long.toString(call.on(x));
        } catch (RuntimeException e) {
            return e.getClass().getName();
        }
    }

    private static String answer(Call call, Model x) {
        try {
            return Long.toString(call.on(x));
        } catch (RuntimeException e) {
            return e.getClass().getName();
        }
    }

    /** Mostly 0 to bound - 1; now and then just outside, or far off. */
    private static int argument(Draw draw, int bound) {
        int[] odd = {-1, bound, -2, bound + 1, Integer.MIN_VALUE, Integer.MAX_VALUE};
        return draw.below(25) == 0 ? odd[draw.below(odd.length)] : draw.below(bound);
    }

    private static Call drawn(Draw draw, int numbers, int writing) {
        int number = argument(draw, 64);
        if (numbers < 64 && number >= 0 && number < 64) {
            number = number % numbers * (64 / numbers) + draw.below(2);
        }
        int kind = draw.below(100) < writing ? draw.below(2) : draw.below(18);
        if ((kind == 2 || kind == 3 || kind == 4) && draw.below(3) > 0) {
            kind = 0;
        }
        switch (kind) {
            case 0: return new Call(kind, number, argument(draw, 100), 0);
            case 3: return new Call(kind, argument(draw, 4), 0, 0);
            case 4: return new Call(kind, 1 + argument(draw, 8), 0, 0);
            case 8: return new Call(kind, number / 2, argument(draw, 64), 0);
            case 9: return new Call(kind, argument(draw, 4), argument(draw, 2), argument(draw, 6));
            case 10: return new Call(kind, argument(draw, 4), argument(draw, 2), argument(draw, 8));
            case 11: return new Call(kind, argument(draw, 4), 0, 0);
            case 12: return new Call(kind, argument(draw, 4), argument(draw, 3), 0);
            case 13: return new Call(kind, argument(draw, 7), 0, 0);
            case 14: return new Call(kind, argument(draw, 4), 0, 0);
            default: return new Call(kind, number, 0, 0);
        }
    }

    private static void differ(int run, int at, Call call, String got, String due) {
        if (!got.equals(due)) {
            wrong++;
            System.out.println("run " + run + ", call " + at + ": " + call.text() + " answered " + got
                + ", due is " + due);
        }
    }

    private static void oneRun(int run) {
        Draw draw = new Draw(run);
        int numbers = new int[] {64, 64, 16, 8, 4}[run % 5];
        int writing = new int[] {0, 50, 80}[run % 3];
        SlipLevels program = new SlipLevels();
        Model model = new Model();
        for (int at = 1; at < CALLS && wrong < 20; at++) {
            Call call = drawn(draw, numbers, writing);
            differ(run, at, call, answer(call, program), answer(call, model));
        }
        Call last = new Call(17, 0, 0, 0);
        differ(run, CALLS, last, answer(last, program), answer(last, model));
    }

    public static void main(String[] args) {
        for (int run = 0; run < RUNS && wrong < 20; run++) {
            oneRun(run);
        }
        System.out.println(wrong == 0 ? "program and model agree" : wrong + " answers differ");
        if (wrong != 0) {
            System.exit(1);
        }
    }
}
