import java.util.List;

/** The edges of promises 7 to 10, and of the order of reading, ends and sieves; a test for each sentence. */
public final class EdgeReadingTest {
    public static void main(String[] args) {
        Edges.runAll(EdgeReadingTest.class, 7, 10);
    }

    private static SlipLevels run(int... slips) {
        return Edges.bound(Edges.fresh(), slips);
    }

    private static void detours(SlipLevels x, int number, int due) {
        Edges.same("detours of " + number, x.detours(number), due);
    }

    // ---- promise 7: read

    static void promise7NumberMinusOneIsRefused() {
        Edges.refused(Edges.INDEX, x -> x.read(-1));
    }

    static void promise7NumberZeroIsRead() {
        SlipLevels x = run(0, 10, 63, 20);
        Edges.same("read", x.read(0), 10);
        Edges.same("detours", x.count(5), 1);
    }

    static void promise7Number63IsRead() {
        SlipLevels x = run(0, 10, 63, 20);
        Edges.same("read", x.read(63), 20);
        Edges.same("detours", x.count(5), 1);
    }

    static void promise7Number64IsRefused() {
        Edges.refused(Edges.INDEX, x -> x.read(64));
    }

    static void promise7NumbersFarOffAreRefused() {
        Edges.refused(Edges.FAR_OFF, Edges.INDEX, SlipLevels::read);
    }

    static void promise7NothingThereIsMinusOne() {
        SlipLevels x = Edges.fresh();
        Edges.same("read", x.read(5), -1);
        Edges.same("no detours", x.count(5), 0);
    }

    static void promise7WordZeroIsNotNothing() {
        SlipLevels x = run(5, 0);
        Edges.same("in a run", x.read(5), 0);
        x.write(6, 0);
        Edges.same("on the desk", x.read(6), 0);
    }

    static void promise7TombIsMinusOneWhateverItsNumber() {
        SlipLevels x = run(0, -1, 1, -1, 63, -1);
        Edges.put(x, 2, -1, 62, -1);
        for (int number : new int[] {0, 1, 2, 62, 63}) {
            Edges.same("read " + number, x.read(number), -1);
        }
    }

    static void promise7DeskGoesFirst() {
        SlipLevels x = Edges.put(run(5, 50, 6, 60), 5, 51, 6, -1);
        Edges.same("a word", x.read(5), 51);
        Edges.same("a tomb", x.read(6), -1);
        Edges.same("no detours", x.count(5), 0);
    }

    static void promise7LaterRunGoesFirst() {
        SlipLevels x = Edges.bound(run(5, 50, 6, -1, 7, 70), 5, 51, 6, 61, 7, -1);
        Edges.same("a word for a word", x.read(5), 51);
        Edges.same("a word for a tomb", x.read(6), 61);
        Edges.same("a tomb for a word", x.read(7), -1);
        Edges.same("one detour each", x.count(5), 3);
    }

    static void promise7LevelsGoInOrder() {
        for (int level = 1; level < 4; level++) {
            for (int above = 0; above < level; above++) {
                SlipLevels x = Edges.laid(Edges.laid(Edges.fresh(), level, 5, 50, 6, 60), above, 5, 51, 6, -1);
                Edges.same("a word of " + above + " for " + level, x.read(5), 51);
                Edges.same("a tomb of " + above + " for " + level, x.read(6), -1);
                Edges.same("one detour each", x.count(5), 2);
            }
        }
    }

    static void promise7DeepestRunIsReachedAtLast() {
        SlipLevels x = Edges.fresh();
        for (int level = 3; level >= 0; level--) {
            Edges.laid(x, level, 0, level, 16, level, 8 * level + 24, 90 + level);
            Edges.laid(x, level, 0, level, 63, level);
        }
        Edges.same("read", x.read(48), 93);
        Edges.same("the run that has it, too", x.count(5), 5);
    }

    static void promise7DetoursAreCountedEachTime() {
        SlipLevels x = run(5, 50);
        for (int time = 1; time <= 10; time++) {
            x.read(5);
            Edges.same("detours", x.count(5), time);
        }
    }

    static void promise7DetoursInVainAreCounted() {
        SlipLevels x = run(8, 1, 24, 2);
        Edges.same("read", x.read(16), -1);
        Edges.same("detours", x.count(5), 1);
    }

    static void promise7DetoursOfTombsAreCounted() {
        SlipLevels x = Edges.bound(run(8, 1), 8, -1);
        Edges.same("read", x.read(8), -1);
        Edges.same("not beyond the tomb", x.count(5), 1);
    }

    static void promise7AllElseStays() {
        SlipLevels x = Edges.brim();
        SlipLevels twin = Edges.brim();
        for (int number = 0; number < 64; number++) {
            if (x.detours(number) == 0) {
                x.read(number);
            }
        }
        Edges.same("digest", x.digest(), twin.digest());
    }

    static void promise7All64() {
        SlipLevels x = Edges.whole();
        for (int number = 0; number < 64; number++) {
            Edges.same("read", x.read(number), 36 + number);
        }
        Edges.same("detours", x.count(5), 64);
    }

    // ---- promise 8: detours, ends and sieve

    static void promise8NumberMinusOneIsRefused() {
        Edges.refused(Edges.INDEX, x -> x.detours(-1));
    }

    static void promise8NumberZeroIsTold() {
        detours(run(0, 10), 0, 1);
        detours(Edges.fresh(), 0, 0);
    }

    static void promise8Number63IsTold() {
        detours(run(63, 10), 63, 1);
        detours(Edges.fresh(), 63, 0);
    }

    static void promise8Number64IsRefused() {
        Edges.refused(Edges.INDEX, x -> x.detours(64));
    }

    static void promise8NumbersFarOffAreRefused() {
        Edges.refused(Edges.FAR_OFF, Edges.INDEX, SlipLevels::detours);
    }

    static void promise8NothingThereIsNone() {
        for (int number = 0; number < 64; number++) {
            detours(Edges.fresh(), number, 0);
        }
    }

    static void promise8LessThanTheLeastIsPassedBy() {
        SlipLevels x = run(16, 1, 15, 2, 32, 3);
        detours(x, 15, 1);
        detours(x, 8, 0);
        detours(x, 7, 0);
        detours(x, 0, 0);
    }

    static void promise8TheLeastIsOpened() {
        detours(run(16, 1, 32, 2), 16, 1);
    }

    static void promise8TheGreatestIsOpened() {
        detours(run(16, 1, 32, 2), 32, 1);
    }

    static void promise8MoreThanTheGreatestIsPassedBy() {
        SlipLevels x = run(16, 1, 33, 2, 32, 3);
        detours(x, 33, 1);
        detours(x, 40, 0);
        detours(x, 41, 0);
        detours(x, 56, 0);
    }

    static void promise8RunOfOneSlipIsOpenedForItAlone() {
        for (int only = 0; only < 64; only++) {
            SlipLevels x = run(only, 1);
            for (int number = 0; number < 64; number++) {
                detours(x, number, number == only ? 1 : 0);
            }
        }
    }

    static void promise8ShutHoleIsPassedBy() {
        SlipLevels x = run(8, 1, 24, 2);
        for (int number = 9; number < 24; number++) {
            detours(x, number, number == 16 ? 1 : 0);
        }
    }

    static void promise8OpenHoleIsOpenedInVain() {
        SlipLevels x = run(0, 1, 63, 2);
        for (int number = 0; number < 64; number++) {
            detours(x, number, number % 8 == 0 || number % 8 == 7 ? 1 : 0);
        }
    }

    static void promise8EachHoleOpensForItsRemainder() {
        for (int hole = 0; hole < 8; hole++) {
            SlipLevels x = run(0, 1, 8 + hole, 2, 56, 3);
            for (int number = 1; number < 56; number++) {
                detours(x, number, number % 8 == hole || number % 8 == 0 ? 1 : 0);
            }
        }
    }

    static void promise8TombsSetEndsAndHoles() {
        SlipLevels x = run(3, -1, 19, 1, 35, -1);
        detours(x, 3, 1);
        detours(x, 11, 1);
        detours(x, 27, 1);
        detours(x, 35, 1);
        detours(x, 43, 0);
    }

    static void promise8TombIsFoundAsASlipIs() {
        SlipLevels x = Edges.bound(run(8, 1), 8, -1);
        detours(x, 8, 1);
    }

    static void promise8FoundRunIsTheLastOpened() {
        SlipLevels x = Edges.bound(Edges.laid(Edges.fresh(), 1, 8, 1, 16, 1, 24, 1), 8, 2, 24, 2);
        Edges.bound(x, 0, 1, 32, 3);
        detours(x, 8, 2);
        detours(x, 16, 3);
        detours(x, 24, 2);
        detours(x, 0, 1);
    }

    static void promise8DeskIsNoDetour() {
        SlipLevels x = Edges.put(run(8, 1, 16, 2), 8, 3, 16, -1);
        detours(x, 8, 0);
        detours(x, 16, 0);
    }

    static void promise8DeskHasNeitherEndsNorSieve() {
        SlipLevels x = Edges.put(Edges.fresh(), 8, 3, 24, 2);
        detours(x, 16, 0);
    }

    static void promise8AllRunsAreOpenedAtMost() {
        SlipLevels x = Edges.fresh();
        for (int level = 3; level >= 0; level--) {
            Edges.laid(x, level, 0, 1, 16, 1);
            Edges.laid(x, level, 0, 1, 16, 1);
        }
        detours(x, 8, 8);
        detours(x, 0, 1);
        detours(x, 16, 1);
        detours(x, 24, 0);
        detours(x, 7, 0);
    }

    static void promise8NoneAreCounted() {
        for (int number : new int[] {0, 8, 16, 48, 63}) {
            int at = number;
            SlipLevels x = Edges.brim();
            Edges.unchangedBy(Edges::brim, x.detours(at), y -> y.detours(at));
        }
    }

    static void promise8TellsWhatReadingCounts() {
        SlipLevels x = Edges.brim();
        int due = x.count(5);
        for (int number = 0; number < 64; number++) {
            due += x.detours(number);
            x.read(number);
            Edges.same("counted by reading " + number, x.count(5), due);
        }
    }

    // ---- promise 9: next

    static void promise9NumberMinusOneIsRefused() {
        Edges.refused(Edges.INDEX, x -> x.next(-1));
    }

    static void promise9NumberZero() {
        Edges.same("itself", run(0, 10).next(0), 0);
        Edges.same("one more", run(1, 10).next(0), 1);
        Edges.same("the last", run(63, 10).next(0), 63);
    }

    static void promise9Number63() {
        Edges.same("itself", run(63, 10).next(63), 63);
        Edges.same("none", run(62, 10).next(63), -1);
        Edges.same("none from the start again", run(0, 10).next(63), -1);
    }

    static void promise9Number64IsRefused() {
        Edges.refused(Edges.INDEX, x -> x.next(64));
    }

    static void promise9NumbersFarOffAreRefused() {
        Edges.refused(Edges.FAR_OFF, Edges.INDEX, SlipLevels::next);
    }

    static void promise9NothingThereIsMinusOne() {
        for (int number = 0; number < 64; number++) {
            Edges.same("next", Edges.fresh().next(number), -1);
        }
    }

    static void promise9OneWordAtEachPlace() {
        for (int only = 0; only < 64; only++) {
            SlipLevels x = Edges.put(Edges.fresh(), only, 0);
            Edges.same("at it", x.next(only), only);
            Edges.same("from 0", x.next(0), only);
            if (only > 0) {
                Edges.same("one below", x.next(only - 1), only);
            }
            if (only < 63) {
                Edges.same("one above", x.next(only + 1), -1);
            }
        }
    }

    static void promise9TombIsNoWord() {
        SlipLevels x = Edges.put(run(5, 50, 6, 60, 7, 70), 5, -1);
        Edges.bound(x, 6, -1);
        Edges.same("over both", x.next(5), 7);
        x.strike(7);
        Edges.same("none is left", x.next(5), -1);
        Edges.same("all are tombs", run(1, -1, 63, -1).next(0), -1);
    }

    static void promise9WordZeroStands() {
        SlipLevels x = run(20, 0);
        Edges.same("next", x.next(3), 20);
    }

    static void promise9DeskAndRunsTogether() {
        SlipLevels x = Edges.put(Edges.bound(Edges.laid(Edges.fresh(), 3, 40, 1), 30, 1), 20, 1);
        Edges.same("desk", x.next(0), 20);
        Edges.same("level 0", x.next(21), 30);
        Edges.same("level 3", x.next(31), 40);
    }

    static void promise9All64() {
        SlipLevels x = Edges.whole();
        for (int number = 0; number < 64; number++) {
            Edges.same("next", x.next(number), number);
        }
    }

    static void promise9NothingIsCounted() {
        Edges.unchangedBy(Edges::brim, 61, x -> x.next(6));
        Edges.unchangedBy(Edges::layered, -1, x -> x.next(35));
    }

    // ---- promise 10: sum

    static void promise10FromMinusOneIsRefused() {
        Edges.refused(Edges.INDEX, x -> x.sum(-1, 5));
    }

    static void promise10From64IsRefused() {
        Edges.refused(Edges.INDEX, x -> x.sum(64, 64));
    }

    static void promise10ToMinusOneIsRefused() {
        Edges.refused(Edges.INDEX, x -> x.sum(-1, -1));
        Edges.refused(Edges.INDEX, x -> x.sum(0, -1));
    }

    static void promise10To64IsRefused() {
        Edges.refused(Edges.INDEX, x -> x.sum(63, 64));
        Edges.refused(Edges.INDEX, x -> x.sum(0, 64));
    }

    static void promise10NumbersFarOffAreRefused() {
        Edges.refused(Edges.FAR_OFF, Edges.INDEX, (x, number) -> x.sum(number, 63));
        Edges.refused(Edges.FAR_OFF, Edges.INDEX, (x, number) -> x.sum(0, number));
    }

    static void promise10FromOneMoreThanToIsRefused() {
        Edges.refused(Edges.ARGUMENT, x -> x.sum(1, 0));
        Edges.refused(Edges.ARGUMENT, x -> x.sum(63, 62));
        Edges.refused(Edges.ARGUMENT, x -> x.sum(63, 0));
    }

    static void promise10NumberOutsideIsRefusedBeforeTheirOrder() {
        Edges.refused(Edges.INDEX, x -> x.sum(64, 0));
        Edges.refused(Edges.INDEX, x -> x.sum(63, -1));
        Edges.refused(Edges.INDEX, x -> x.sum(64, -1));
        Edges.refused(Edges.INDEX, x -> x.sum(Edges.HIGH, Edges.LOW));
    }

    static void promise10FromSameAsToIsOneNumber() {
        SlipLevels x = run(0, 10, 1, 20, 62, 30, 63, 40);
        Edges.same("0", x.sum(0, 0), 10);
        Edges.same("1", x.sum(1, 1), 20);
        Edges.same("2", x.sum(2, 2), 0);
        Edges.same("63", x.sum(63, 63), 40);
    }

    static void promise10BothEndsAreAdded() {
        SlipLevels x = run(10, 1, 11, 2, 12, 4, 13, 8, 14, 16);
        Edges.same("11 to 13", x.sum(11, 13), 14);
        Edges.same("10 to 14", x.sum(10, 14), 31);
        Edges.same("14 to 63", x.sum(14, 63), 16);
        Edges.same("0 to 10", x.sum(0, 10), 1);
    }

    static void promise10NothingThereIsZero() {
        Edges.same("a new one", Edges.fresh().sum(0, 63), 0);
        Edges.same("beside the words", run(9, 1, 12, 1).sum(10, 11), 0);
    }

    static void promise10TombsAddNothing() {
        SlipLevels x = Edges.put(run(1, 10, 2, 20, 3, -1), 1, -1, 4, -1);
        Edges.same("sum", x.sum(0, 63), 20);
        Edges.same("a tomb alone", x.sum(1, 1), 0);
        Edges.same("a tomb alone in a run", x.sum(3, 3), 0);
    }

    static void promise10WordThatStandsIsAddedOnce() {
        SlipLevels x = Edges.put(Edges.bound(Edges.laid(Edges.fresh(), 2, 5, 50), 5, 51), 5, 52);
        Edges.same("sum", x.sum(0, 63), 52);
    }

    static void promise10AsMuchAsCanBe() {
        SlipLevels x = Edges.fresh();
        x.setRoom(8);
        for (int number = 0; number < 64; number++) {
            x.write(number, 99);
        }
        Edges.same("all", x.sum(0, 63), 64 * 99);
        Edges.same("all but the ends", x.sum(1, 62), 62 * 99);
    }

    static void promise10NothingIsCounted() {
        Edges.unchangedBy(Edges::layered, 31 + 41 + 32 + 13 + 22 + 33, x -> x.sum(0, 63));
        Edges.same("words", Edges.words(Edges.layered()), List.of(1, 2, 3, 18, 26, 34));
    }
}
