import java.util.Arrays;

/** A binder's levels of slips. */
public final class SlipLevels {
    private static final int NUMBERS = 64;
    private static final int WORDS = 100;
    private static final int HOLES = 8;
    private static final int LEVELS = 4;
    /** A level with so many runs is merged as it is settled, hence none ever holds more. */
    private static final int FULL_LEVEL = 3;
    private static final int FIRST_ROOM = 4;
    private static final int MOST_ROOM = 8;
    private static final int RUN_FACTS = 6;
    /** The fact of a run that it can't tell by itself: how many of its slips stand for their numbers. */
    private static final int STANDING = 5;
    private static final int LEVEL_FACTS = 3;
    private static final int COUNTS = 7;
    private static final int DIGEST_START = 1493;
    private static final int DIGEST_FACTOR = 31;

    /** What is held instead of a word: TOMB for a number struck out, ABSENT without a slip. */
    private static final int TOMB = -1;
    private static final int ABSENT = -2;

    private final Slips deskSlips;
    private final Binder binder;
    /** A second binder, in which it is tried out what a merging would do. */
    private final Binder trial;
    private int deskRoom;
    private int detoursRead;

    /** Creates empty levels, and a desk for 4 slips. */
    public SlipLevels() {
        deskSlips = new Slips();
        binder = new Binder();
        trial = new Binder();
        deskRoom = FIRST_ROOM;
        detoursRead = 0;
    }

    // ---- writing

    /** Writes a slip; tells whether slips were bound. */
    public boolean write(int number, int word) throws IndexOutOfBoundsException, IllegalArgumentException {
        needNumber(number);
        if (word < 0 || word >= WORDS) {
            throw new IllegalArgumentException("the word is not 0 to 99");
        }
        deskSlips.put(number, word);
        return bindFrom(deskRoom) > 0;
    }

    /** Writes a tomb for a number; tells whether slips were bound. */
    public boolean strike(int number) throws IndexOutOfBoundsException {
        needNumber(number);
        deskSlips.put(number, TOMB);
        return bindFrom(deskRoom) > 0;
    }

    /** Binds the slips of the desk; tells how many moves this was. */
    public int bind() {
        return bindFrom(1);
    }

    /** Merges a level and settles all; tells how many moves this was. */
    public int merge(int level) throws IndexOutOfBoundsException, IllegalStateException {
        needLevel(level);
        if (binder.runsOf(level) == 0) {
            throw new IllegalStateException("the level has no runs");
        }
        int before = binder.moves();
        binder.mergeLevel(level);
        binder.settle();
        return binder.moves() - before;
    }

    /** Sets the room of the desk; tells what it was before. */
    public int setRoom(int room) throws IllegalArgumentException {
        if (room < 1 || room > MOST_ROOM) {
            throw new IllegalArgumentException("the room is not 1 to 8");
        }
        int before = deskRoom;
        deskRoom = room;
        bindFrom(room);
        return before;
    }

    // ---- reading

    /** Reads a number and counts the detours; -1 if no word stands for it. */
    public int read(int number) throws IndexOutOfBoundsException {
        needNumber(number);
        detoursRead += detoursIn(binder, number);
        return wordOf(number);
    }

    /** Tells how many detours reading a number would be. */
    public int detours(int number) throws IndexOutOfBoundsException {
        needNumber(number);
        return detoursIn(binder, number);
    }

    /** Tells the least number from this one on for which a word stands; -1 if there is none. */
    public int next(int number) throws IndexOutOfBoundsException {
        needNumber(number);
        for (int at = number; at < NUMBERS; at++) {
            if (wordOf(at) >= 0) {
                return at;
            }
        }
        return -1;
    }

    /** Adds the words that stand for the numbers from the one to the other one. */
    public int sum(int from, int to) throws IndexOutOfBoundsException, IllegalArgumentException {
        needNumber(from);
        needNumber(to);
        if (from > to) {
            throw new IllegalArgumentException("from is greater than to");
        }
        int total = 0;
        for (int number = from; number <= to; number++) {
            total += Math.max(wordOf(number), 0);
        }
        return total;
    }

    // ---- what lies where

    /** Tells a fact of a run. */
    public int run(int level, int run, int what) throws IndexOutOfBoundsException {
        needLevel(level);
        Slips found = binder.runAt(level, run);
        if (found == null) {
            throw new IndexOutOfBoundsException("there is no such run");
        }
        if (what < 0 || what >= RUN_FACTS) {
            throw new IndexOutOfBoundsException("what is not 0 to 5");
        }
        return factOf(level, run, found, what);
    }

    /** Tells a slip of a run. */
    public int slip(int level, int run, int place) throws IndexOutOfBoundsException {
        needLevel(level);
        Slips found = binder.runAt(level, run);
        if (found == null) {
            throw new IndexOutOfBoundsException("there is no such run");
        }
        return slipAt(found, place);
    }

    /** Tells a slip of the desk. */
    public int desk(int place) throws IndexOutOfBoundsException {
        return slipAt(deskSlips, place);
    }

    /** Tells how many runs, slips or tombs a level has. */
    public int level(int level, int what) throws IndexOutOfBoundsException {
        needLevel(level);
        if (what < 0 || what >= LEVEL_FACTS) {
            throw new IndexOutOfBoundsException("what is not 0 to 2");
        }
        switch (what) {
            case 0:
                return binder.runsOf(level);
            case 1:
                return binder.slipsOf(level);
            default:
                return binder.tombsOf(level);
        }
    }

    /** Tells one of the counts. */
    public int count(int what) throws IndexOutOfBoundsException {
        if (what < 0 || what >= COUNTS) {
            throw new IndexOutOfBoundsException("what is not 0 to 6");
        }
        return tally(what);
    }

    // ---- what would be

    /** Tells how many slips fewer there would be if this level was merged; -1 without runs. */
    public int spares(int level) throws IndexOutOfBoundsException {
        needLevel(level);
        if (binder.runsOf(level) == 0) {
            return -1;
        }
        tryMerging(level);
        return binder.slips() - trial.slips();
    }

    /** Tells the level which had best be merged for the fewest detours; -1 without runs. */
    public int advise() {
        int best = -1;
        int fewest = 0;
        for (int level = 0; level < LEVELS; level++) {
            if (binder.runsOf(level) == 0) {
                continue;
            }
            tryMerging(level);
            int detours = allDetoursIn(trial);
            if (best < 0 || detours < fewest) {
                best = level;
                fewest = detours;
            }
        }
        return best;
    }

    /** Tells the mean of the detours of all numbers. */
    public double mean() {
        return (double) allDetoursIn(binder) / NUMBERS;
    }

    /** Computes a checksum of all that can be told. */
    public long digest() {
        long d = DIGEST_START;
        for (int what = 0; what < COUNTS; what++) {
            d = d * DIGEST_FACTOR + tally(what);
        }
        d = digestSlips(d, deskSlips);
        for (int level = 0; level < LEVELS; level++) {
            d = digestLevel(d, level);
        }
        for (int number = 0; number < NUMBERS; number++) {
            d = d * DIGEST_FACTOR + wordOf(number);
        }
        return d;
    }

    // ---- what the calls share

    private static void needNumber(int number) {
        if (number < 0 || number >= NUMBERS) {
            throw new IndexOutOfBoundsException("the number is not 0 to 63");
        }
    }

    private static void needLevel(int level) {
        if (level < 0 || level >= LEVELS) {
            throw new IndexOutOfBoundsException("the level is not 0 to 3");
        }
    }

    private static int slipAt(Slips slips, int place) {
        int number = slips.numberAt(place);
        if (number < 0) {
            throw new IndexOutOfBoundsException("there is no such place");
        }
        return slips.told(number);
    }

    /** Binds the slips of the desk if there are as many or more; tells how many moves this was. */
    private int bindFrom(int fewest) {
        if (deskSlips.size() < fewest) {
            return 0;
        }
        int before = binder.moves();
        binder.addRun(0, deskSlips);
        deskSlips.clear();
        binder.settle();
        return binder.moves() - before;
    }

    /** The word that stands for a number; -1 if there is none. */
    private int wordOf(int number) {
        int word = deskSlips.wordAt(number);
        if (word == ABSENT) {
            word = binder.firstWord(number);
        }
        return word < 0 ? -1 : word;
    }

    private int detoursIn(Binder runs, int number) {
        return deskSlips.has(number) ? 0 : runs.detoursTo(number);
    }

    private int allDetoursIn(Binder runs) {
        int total = 0;
        for (int number = 0; number < NUMBERS; number++) {
            total += detoursIn(runs, number);
        }
        return total;
    }

    private int factOf(int level, int run, Slips slips, int what) {
        return what == STANDING ? standingIn(level, run) : slips.fact(what);
    }

    /** How many slips of a run stand for their numbers, tombs too. */
    private int standingIn(int level, int run) {
        int standing = 0;
        for (int number = 0; number < NUMBERS; number++) {
            if (!deskSlips.has(number) && binder.isFirst(level, run, number)) {
                standing++;
            }
        }
        return standing;
    }

    private int wordsStanding() {
        int standing = 0;
        for (int number = 0; number < NUMBERS; number++) {
            if (wordOf(number) >= 0) {
                standing++;
            }
        }
        return standing;
    }

    private int tally(int what) {
        switch (what) {
            case 0:
                return deskSlips.size();
            case 1:
                return deskRoom;
            case 2:
                return binder.slips();
            case 3:
                return wordsStanding();
            case 4:
                return binder.moves();
            case 5:
                return detoursRead;
            default:
                return binder.mergings();
        }
    }

    private void tryMerging(int level) {
        trial.copyRuns(binder);
        trial.mergeLevel(level);
        trial.settle();
    }

    private long digestLevel(long start, int level) {
        int runs = binder.runsOf(level);
        long d = start * DIGEST_FACTOR + runs;
        for (int run = 0; run < runs; run++) {
            Slips slips = binder.runAt(level, run);
            if (slips == null) {
                continue;
            }
            for (int what = 0; what < RUN_FACTS; what++) {
                d = d * DIGEST_FACTOR + factOf(level, run, slips, what);
            }
            d = digestSlips(d, slips);
        }
        return d;
    }

    private static long digestSlips(long start, Slips slips) {
        long d = start;
        for (int number = 0; number < NUMBERS; number++) {
            if (slips.has(number)) {
                d = d * DIGEST_FACTOR + slips.told(number);
            }
        }
        return d;
    }

    /** Slips of different numbers: those of the desk, or of a run. */
    private static final class Slips {
        private final int[] words = new int[NUMBERS];
        private int size;
        private int tombs;
        private int least;
        private int greatest;
        private int sieve;

        Slips() {
            clear();
        }

        void clear() {
            Arrays.fill(words, ABSENT);
            size = 0;
            tombs = 0;
            least = NUMBERS;
            greatest = -1;
            sieve = 0;
        }

        void copy(Slips other) {
            if (other == null) {
                return;
            }
            System.arraycopy(other.words, 0, words, 0, NUMBERS);
            size = other.size;
            tombs = other.tombs;
            least = other.least;
            greatest = other.greatest;
            sieve = other.sieve;
        }

        /** Takes a slip in; it takes the place of that with the same number. */
        void put(int number, int word) {
            if (number < 0 || number >= NUMBERS) {
                return;
            }
            int before = words[number];
            if (before == ABSENT) {
                size++;
            }
            if (before == TOMB) {
                tombs--;
            }
            if (word == TOMB) {
                tombs++;
            }
            words[number] = word;
            least = Math.min(least, number);
            greatest = Math.max(greatest, number);
            sieve |= 1 << (number % HOLES);
        }

        int size() {
            return size;
        }

        int tombs() {
            return tombs;
        }

        int wordAt(int number) {
            return number < 0 || number >= NUMBERS ? ABSENT : words[number];
        }

        boolean has(int number) {
            return wordAt(number) != ABSENT;
        }

        /** Whether a reader opens this run, as its ends and its sieve let the number be in it. */
        boolean opensFor(int number) {
            return number >= least && number <= greatest && (sieve >> (number % HOLES) & 1) == 1;
        }

        /** The number of the slip at a place; -1 if there is no such place. */
        int numberAt(int place) {
            if (place < 0 || place >= size) {
                return -1;
            }
            int left = place;
            for (int number = 0; number < NUMBERS; number++) {
                if (has(number)) {
                    if (left == 0) {
                        return number;
                    }
                    left--;
                }
            }
            return -1;
        }

        /** The slip of a number, as slip() and desk() tell it. */
        int told(int number) {
            int word = wordAt(number);
            return word == TOMB ? -1 - number : 100 * number + word;
        }

        int fact(int what) {
            switch (what) {
                case 0:
                    return size;
                case 1:
                    return least;
                case 2:
                    return greatest;
                case 3:
                    return sieve;
                default:
                    return tombs;
            }
        }
    }

    /** The levels with their runs, and what binding and merging have moved. */
    private static final class Binder {
        /** For each level as many rows as it may need, its earliest run in the first of them. */
        private final Slips[] rows = new Slips[LEVELS * FULL_LEVEL];
        private final int[] runs = new int[LEVELS];
        private final Slips merged = new Slips();
        private int moves;
        private int mergings;

        Binder() {
            for (int at = 0; at < rows.length; at++) {
                rows[at] = new Slips();
            }
            moves = 0;
            mergings = 0;
        }

        int moves() {
            return moves;
        }

        int mergings() {
            return mergings;
        }

        int runsOf(int level) {
            return level < 0 || level >= LEVELS ? 0 : runs[level];
        }

        /** A run of a level, 0 for the latest one; null if there is none. */
        Slips runAt(int level, int run) {
            if (level < 0 || level >= LEVELS || run < 0 || run >= runs[level]) {
                return null;
            }
            int at = level * FULL_LEVEL + runs[level] - 1 - run;
            return at < 0 || at >= rows.length ? null : rows[at];
        }

        private Slips rowAt(int level, int row) {
            if (level < 0 || level >= LEVELS || row < 0 || row >= FULL_LEVEL) {
                return null;
            }
            return rows[level * FULL_LEVEL + row];
        }

        int slipsOf(int level) {
            int total = 0;
            for (int run = 0; run < runsOf(level); run++) {
                Slips slips = runAt(level, run);
                total += slips == null ? 0 : slips.size();
            }
            return total;
        }

        int tombsOf(int level) {
            int total = 0;
            for (int run = 0; run < runsOf(level); run++) {
                Slips slips = runAt(level, run);
                total += slips == null ? 0 : slips.tombs();
            }
            return total;
        }

        int slips() {
            int total = 0;
            for (int level = 0; level < LEVELS; level++) {
                total += slipsOf(level);
            }
            return total;
        }

        /** What the first slip of a number in a level says; ABSENT if there is none. */
        private int firstWordIn(int level, int number) {
            for (int run = 0; run < FULL_LEVEL; run++) {
                Slips slips = runAt(level, run);
                if (slips != null && slips.wordAt(number) != ABSENT) {
                    return slips.wordAt(number);
                }
            }
            return ABSENT;
        }

        /** What the first slip of a number in all levels says; ABSENT if there is none. */
        int firstWord(int number) {
            for (int level = 0; level < LEVELS; level++) {
                int word = firstWordIn(level, number);
                if (word != ABSENT) {
                    return word;
                }
            }
            return ABSENT;
        }

        /** Whether a run has the first slip of a number in all levels. */
        boolean isFirst(int level, int run, int number) {
            for (int above = 0; above < level; above++) {
                if (firstWordIn(above, number) != ABSENT) {
                    return false;
                }
            }
            for (int later = 0; later < run; later++) {
                Slips slips = runAt(level, later);
                if (slips != null && slips.has(number)) {
                    return false;
                }
            }
            Slips own = runAt(level, run);
            return own != null && own.has(number);
        }

        /** How many runs are opened, till the number is found or all are passed. */
        int detoursTo(int number) {
            int opened = 0;
            for (int level = 0; level < LEVELS; level++) {
                for (int run = 0; run < runsOf(level); run++) {
                    Slips slips = runAt(level, run);
                    if (slips == null || !slips.opensFor(number)) {
                        continue;
                    }
                    opened++;
                    if (slips.has(number)) {
                        return opened;
                    }
                }
            }
            return opened;
        }

        void settle() {
            for (int level = 0; level < LEVELS; level++) {
                if (runsOf(level) >= FULL_LEVEL) {
                    mergeLevel(level);
                }
            }
        }

        void mergeLevel(int level) {
            if (level < 0 || level >= LEVELS) {
                return;
            }
            gather(level, nothingBehind(level));
            runs[level] = 0;
            addRun(Math.min(level + 1, LEVELS - 1), merged);
            mergings++;
        }

        /** Whether no level behind this one has runs; of the last level this always holds. */
        private boolean nothingBehind(int level) {
            for (int behind = level + 1; behind < LEVELS; behind++) {
                if (runsOf(behind) > 0) {
                    return false;
                }
            }
            return true;
        }

        private void gather(int level, boolean withoutTombs) {
            merged.clear();
            for (int number = 0; number < NUMBERS; number++) {
                int word = firstWordIn(level, number);
                if (word != ABSENT && !(withoutTombs && word == TOMB)) {
                    merged.put(number, word);
                }
            }
        }

        /** Makes a copy of the slips the latest run of a level, if there are any. */
        void addRun(int level, Slips slips) {
            Slips row = rowAt(level, runsOf(level));
            if (row == null || slips == null || slips.size() == 0) {
                return;
            }
            row.copy(slips);
            runs[level]++;
            moves += slips.size();
        }

        /** Takes over the runs of another binder, not what it has counted. */
        void copyRuns(Binder other) {
            for (int level = 0; level < LEVELS; level++) {
                runs[level] = other.runs[level];
                for (int row = 0; row < runs[level]; row++) {
                    Slips mine = rowAt(level, row);
                    if (mine != null) {
                        mine.copy(other.rowAt(level, row));
                    }
                }
            }
        }
    }
}
