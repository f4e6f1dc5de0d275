import java.math.BigInteger;
import java.util.ArrayList;
import java.util.Collections;
import java.util.List;

/** The edges of promises 16 to 19, what would be; a test for each sentence. */
public final class EdgeWouldBeTest {
    public static void main(String[] args) {
        Edges.runAll(EdgeWouldBeTest.class, 16, 19);
    }

    private static SlipLevels run(int... slips) {
        return Edges.bound(Edges.fresh(), slips);
    }

    // ---- promise 16: spares

    static void promise16LevelMinusOneIsRefused() {
        Edges.refused(Edges.INDEX, x -> x.spares(-1));
    }

    static void promise16Level4IsRefused() {
        Edges.refused(Edges.INDEX, x -> x.spares(4));
    }

    static void promise16LevelsFarOffAreRefused() {
        Edges.refused(Edges.FAR_OFF, Edges.INDEX, SlipLevels::spares);
    }

    static void promise16NoRunsIsMinusOne() {
        for (int level = 0; level < 4; level++) {
            int at = level;
            Edges.unchangedBy(Edges::fresh, -1, x -> x.spares(at));
            Edges.same("a desk alone", Edges.put(Edges.fresh(), 1, 10).spares(level), -1);
            SlipLevels x = Edges.fresh();
            for (int other = 3; other >= 0; other--) {
                if (other != level) {
                    Edges.laid(x, other, 10 + other, 1);
                }
            }
            Edges.same("all other levels have runs", x.spares(level), -1);
        }
    }

    static void promise16LevelJustEmptiedIsMinusOne() {
        SlipLevels x = run(1, 10);
        x.merge(0);
        Edges.same("emptied", x.spares(0), -1);
        Edges.same("the next", x.spares(1), 0);
    }

    static void promise16OneRunOfWordsSparesNone() {
        for (int level = 0; level < 4; level++) {
            Edges.same("level " + level, Edges.laid(Edges.fresh(), level, 1, 10, 2, 20).spares(level), 0);
        }
    }

    static void promise16RunsOfDifferentNumbersSpareNone() {
        for (int level = 0; level < 4; level++) {
            SlipLevels x = Edges.laid(Edges.laid(Edges.fresh(), level, 1, 10, 2, 20), level, 3, 30);
            Edges.same("level " + level, x.spares(level), 0);
        }
    }

    static void promise16SameNumbersAreSpared() {
        for (int level = 0; level < 4; level++) {
            SlipLevels x = Edges.laid(Edges.fresh(), level, 1, 10, 2, 20, 3, 30);
            Edges.laid(x, level, 1, 11, 3, 31, 4, 41);
            Edges.same("level " + level, x.spares(level), 2);
        }
    }

    static void promise16TombsAreSparedIfNothingLiesBehind() {
        Edges.same("all are tombs", run(1, -1, 2, -1).spares(0), 2);
        Edges.same("a word stays", run(1, -1, 2, 20).spares(0), 1);
        Edges.same("a tomb and what it hides", Edges.bound(run(1, 10), 1, -1).spares(0), 2);
    }

    static void promise16TombsStayIfOneLevelBehindHasRuns() {
        for (int behind = 1; behind < 4; behind++) {
            for (int level = 0; level < behind; level++) {
                SlipLevels x = Edges.laid(Edges.laid(Edges.fresh(), behind, 1, 10), level, 1, -1, 2, -1);
                Edges.same("level " + level + " over " + behind, x.spares(level), 0);
            }
        }
    }

    static void promise16Level3AlwaysSparesTombs() {
        SlipLevels x = Edges.laid(Edges.laid(Edges.fresh(), 3, 1, 10, 2, 20), 3, 1, -1, 5, -1, 6, 60);
        Edges.same("two tombs and a hidden word", x.spares(3), 3);
        SlipLevels y = Edges.laid(Edges.laid(Edges.fresh(), 3, 1, 10), 3, 1, -1);
        Edges.same("all of them", y.spares(3), 2);
    }

    static void promise16SettlingSparesToo() {
        SlipLevels x = Edges.laid(Edges.laid(Edges.fresh(), 1, 1, 10, 2, 20), 1, 1, 11, 3, 30);
        Edges.bound(x, 1, 12, 4, 40);
        Edges.same("level 0 alone has none to spare", x.spares(0), 2);
        Edges.same("level 1", x.spares(1), 1);
        SlipLevels y = Edges.laid(Edges.laid(Edges.fresh(), 3, 1, 10), 3, 1, -1);
        Edges.laid(y, 2, 1, -1);
        Edges.same("settling level 3 leaves none", y.spares(2), 3);
    }

    static void promise16TellsWhatMergingDoes() {
        for (int level = 0; level < 4; level++) {
            SlipLevels x = Edges.brim();
            int due = x.spares(level);
            int before = x.count(2);
            x.merge(level);
            Edges.same("level " + level, due, before - x.count(2));
        }
    }

    static void promise16DeskIsNoRun() {
        SlipLevels x = Edges.put(Edges.bound(run(1, 10), 2, 20), 1, 11, 2, -1);
        Edges.same("the desk hides both", x.spares(0), 0);
        SlipLevels y = Edges.put(Edges.bound(run(1, 10), 1, 20), 1, -1);
        Edges.same("the desk hides one", y.spares(0), 1);
    }

    static void promise16All64AreSpared() {
        SlipLevels x = Edges.fresh();
        x.setRoom(8);
        for (int slip = 0; slip < 128; slip++) {
            x.write(slip % 64, slip % 100);
            if (slip % 64 == 63) {
                x.merge(0);
                x.merge(2);
            }
        }
        Edges.same("all of the earlier run", x.spares(3), 64);
    }

    static void promise16NothingIsChanged() {
        for (int level = 0; level < 4; level++) {
            int at = level;
            Edges.unchangedBy(Edges::brim, Edges.brim().spares(at), x -> x.spares(at));
            Edges.unchangedBy(Edges::layered, Edges.layered().spares(at), x -> x.spares(at));
        }
    }

    static void promise16AsksNothingOfEarlierAsking() {
        SlipLevels x = Edges.brim();
        int first = x.spares(3);
        x.spares(0);
        x.spares(1);
        x.advise();
        Edges.same("once more", x.spares(3), first);
    }

    // ---- promise 17: advise

    static void promise17NoRunsIsMinusOne() {
        Edges.unchangedBy(Edges::fresh, -1, x -> x.advise());
        Edges.same("a desk alone", Edges.put(Edges.fresh(), 1, 10, 2, -1).advise(), -1);
    }

    static void promise17AllRunsGoneIsMinusOne() {
        SlipLevels x = run(1, -1);
        x.merge(0);
        Edges.same("gone", x.advise(), -1);
    }

    static void promise17OnlyLevelWithRuns() {
        for (int level = 0; level < 4; level++) {
            Edges.same("level " + level, Edges.laid(Edges.fresh(), level, 1, 10).advise(), level);
            SlipLevels x = Edges.laid(Edges.laid(Edges.fresh(), level, 0, 1, 16, 1), level, 8, 1);
            Edges.same("two runs of " + level, x.advise(), level);
        }
    }

    static void promise17OfSeveralTheLeast() {
        for (int least = 0; least < 4; least++) {
            SlipLevels x = Edges.fresh();
            for (int level = 3; level >= least; level--) {
                Edges.laid(x, level, level, 1);
            }
            Edges.same("none saves any, from " + least, x.advise(), least);
        }
    }

    /** Runs of 8 numbers of a remainder's hole on a level, of which merging saves so many detours. */
    private static void wasteful(SlipLevels x, int level, int hole, int saved) {
        int[] earlier = new int[2 * saved];
        for (int at = 0; at < saved; at++) {
            earlier[2 * at] = 8 + 8 * at + hole;
            earlier[2 * at + 1] = 1;
        }
        Edges.laid(x, level, earlier);
        Edges.laid(x, level, hole, 1, 56 + hole, 1);
    }

    static void promise17FewestDetoursGoBeforeTheLeastLevel() {
        for (int best = 0; best < 4; best++) {
            SlipLevels x = Edges.fresh();
            if (best % 2 == 0) {
                wasteful(x, 2, 5, best == 2 ? 3 : 2);
                wasteful(x, 0, 3, best == 0 ? 3 : 2);
            } else {
                wasteful(x, 3, 5, best == 3 ? 3 : 2);
                wasteful(x, 1, 3, best == 1 ? 3 : 2);
            }
            Edges.same("best", x.advise(), best);
        }
    }

    static void promise17SameDetoursGoByTheLeastLevel() {
        SlipLevels x = Edges.fresh();
        wasteful(x, 3, 5, 2);
        wasteful(x, 1, 3, 2);
        Edges.same("of 1 and 3", x.advise(), 1);
        SlipLevels y = Edges.fresh();
        wasteful(y, 2, 5, 2);
        wasteful(y, 0, 3, 2);
        Edges.same("of 0 and 2", y.advise(), 0);
    }

    static void promise17SettlingIsReckoned() {
        SlipLevels x = Edges.laid(Edges.laid(Edges.fresh(), 1, 0, 1, 8, 1, 56, 1), 1, 0, 1, 24, 1, 56, 1);
        Edges.bound(x, 0, 1, 40, 1);
        Edges.same("merging 0 settles 1", x.advise(), 0);
    }

    static void promise17LeftOutTombsAreReckoned() {
        SlipLevels x = Edges.laid(Edges.laid(Edges.fresh(), 2, 8, 1), 2, 0, -1, 56, -1);
        wasteful(x, 0, 3, 2);
        Edges.same("tombs of 2 are left out", x.advise(), 2);
    }

    static void promise17KeptTombsAreReckoned() {
        SlipLevels x = Edges.laid(Edges.fresh(), 3, 5, 1);
        Edges.laid(Edges.laid(x, 2, 8, 1), 2, 0, -1, 56, -1);
        wasteful(x, 0, 3, 2);
        Edges.same("tombs of 2 stay over 3", x.advise(), 0);
    }

    static void promise17DeskIsNoDetour() {
        SlipLevels x = Edges.fresh();
        wasteful(x, 2, 5, 2);
        wasteful(x, 0, 3, 1);
        Edges.same("without the desk", x.advise(), 2);
        Edges.put(x, 13, 1, 21, -1);
        Edges.same("the desk hides what 2 saves", x.advise(), 0);
    }

    static void promise17NothingIsChanged() {
        Edges.unchangedBy(Edges::brim, Edges.brim().advise(), x -> x.advise());
        Edges.unchangedBy(Edges::layered, Edges.layered().advise(), x -> x.advise());
    }

    // ---- promise 18: mean

    static void promise18NothingThereIsZero() {
        Edges.same("a new one", Edges.fresh().mean(), 0.0);
        Edges.same("a desk alone", Edges.put(Edges.fresh(), 1, 10).mean(), 0.0);
    }

    static void promise18OneDetourOf64Numbers() {
        for (int number = 0; number < 64; number++) {
            Edges.same("one slip", run(number, 1).mean(), 1 / 64.0);
            Edges.same("one tomb", run(number, -1).mean(), 1 / 64.0);
        }
    }

    static void promise18OneDetourForEachNumber() {
        Edges.same("one whole run", Edges.whole().mean(), 1.0);
        Edges.same("one run with open holes", wide().mean(), 1.0);
    }

    private static SlipLevels wide() {
        return run(0, 1, 1, 1, 2, 1, 3, 1, 4, 1, 5, 1, 6, 1, 63, 1);
    }

    static void promise18NothingIsCutOff() {
        SlipLevels x = wide();
        x.write(30, 1);
        Edges.same("one less", x.mean(), 63 / 64.0);
        x.strike(0);
        Edges.same("two less", x.mean(), 62 / 64.0);
        SlipLevels y = Edges.bound(wide(), 20, -1);
        Edges.same("found at once in the later one", y.mean(), 64 / 64.0);
        Edges.same("one more", Edges.bound(wide(), 20, 1, 28, 1, 44, 1).mean(), 65 / 64.0);
    }

    static void promise18ManyDetours() {
        SlipLevels x = Edges.fresh();
        for (int level = 3; level >= 0; level--) {
            Edges.laid(x, level, 0, 1, 1, 1, 2, 1, 3, 1, 4, 1, 5, 1, 62, 1, 63, 1);
            Edges.laid(x, level, 0, 1, 1, 1, 2, 1, 3, 1, 4, 1, 5, 1, 62, 1, 63, 1);
        }
        Edges.same("eight for all but eight", x.mean(), (56 * 8 + 8) / 64.0);
    }

    static void promise18NothingIsCounted() {
        SlipLevels x = Edges.brim();
        int all = 0;
        for (int number = 0; number < 64; number++) {
            all += x.detours(number);
        }
        int due = all;
        Edges.same("mean", x.mean(), due / 64.0);
        Edges.unchangedBy(Edges::brim, due, y -> (long) (y.mean() * 64));
    }

    // ---- promise 19: digest

    /** The checksum in whole numbers without an end, cut to 64 bits at last. */
    private static BigInteger unwrapped(SlipLevels x) {
        List<Integer> all = new ArrayList<>(Edges.counts(x));
        all.addAll(Edges.desk(x));
        for (int level = 0; level < 4; level++) {
            int runs = x.level(level, 0);
            all.add(runs);
            for (int run = 0; run < runs; run++) {
                all.addAll(Edges.facts(x, level, run));
                all.addAll(Edges.slips(x, level, run));
            }
        }
        List<Integer> words = new ArrayList<>(Collections.nCopies(64, -1));
        for (int number : Edges.words(x)) {
            words.set(number, x.sum(number, number));
        }
        all.addAll(words);
        BigInteger d = BigInteger.valueOf(1493);
        for (int next : all) {
            d = d.multiply(BigInteger.valueOf(31)).add(BigInteger.valueOf(next));
        }
        return d;
    }

    private static void wraps(SlipLevels x) {
        BigInteger due = unwrapped(x);
        Edges.same("it goes beyond 64 bits", due.bitLength() > 64, true);
        Edges.same("digest", x.digest(), due.longValue());
    }

    static void promise19NewObject() {
        long d = 1493;
        for (int next : new int[] {0, 4, 0, 0, 0, 0, 0, 0, 0, 0, 0}) {
            d = d * 31 + next;
        }
        for (int number = 0; number < 64; number++) {
            d = d * 31 - 1;
        }
        Edges.same("digest", Edges.fresh().digest(), d);
        wraps(Edges.fresh());
    }

    static void promise19WrapsAround() {
        boolean above = false;
        boolean below = false;
        for (int number = 0; number < 64; number++) {
            SlipLevels x = run(number, 99 - number);
            wraps(x);
            above |= x.digest() > 0;
            below |= x.digest() < 0;
        }
        Edges.same("some are above 0", above, true);
        Edges.same("some are below 0", below, true);
    }

    static void promise19EmptyDeskAndFullDesk() {
        wraps(run(0, -1, 63, 99));
        SlipLevels x = Edges.fresh();
        x.setRoom(8);
        wraps(Edges.put(x, 63, 99, 0, -1, 9, 3, 8, -1, 62, 5, 1, 6, 31, 7));
    }

    static void promise19OneRunOnEachLevel() {
        for (int level = 0; level < 4; level++) {
            wraps(Edges.laid(Edges.fresh(), level, 0, 0, 63, 99, 7, 1));
        }
    }

    static void promise19AllLevelsOfTwo() {
        wraps(Edges.brim());
        wraps(Edges.layered());
    }

    static void promise19All64() {
        wraps(Edges.whole());
    }

    static void promise19CountsGoIn() {
        SlipLevels x = Edges.layered();
        long before = x.digest();
        x.read(18);
        Edges.same("detours counted", x.digest() != before, true);
        wraps(x);
        x.setRoom(5);
        wraps(x);
    }

    static void promise19NothingIsCounted() {
        SlipLevels x = Edges.brim();
        long first = x.digest();
        Edges.same("once more", x.digest(), first);
        Edges.unchangedBy(Edges::brim, first, y -> y.digest());
        Edges.unchangedBy(Edges::fresh, Edges.fresh().digest(), y -> y.digest());
    }
}
