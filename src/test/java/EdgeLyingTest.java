import java.util.List;

/** The edges of promises 11 to 15, what lies where; a test for each sentence. */
public final class EdgeLyingTest {
    public static void main(String[] args) {
        Edges.runAll(EdgeLyingTest.class, 11, 15);
    }

    private static SlipLevels run(int... slips) {
        return Edges.bound(Edges.fresh(), slips);
    }

    // ---- promise 11: run

    static void promise11LevelMinusOneIsRefused() {
        Edges.refused(Edges.INDEX, x -> x.run(-1, 0, 0));
    }

    static void promise11Level4IsRefused() {
        Edges.refused(Edges.INDEX, x -> x.run(4, 0, 0));
    }

    static void promise11LevelsFarOffAreRefused() {
        Edges.refused(Edges.FAR_OFF, Edges.INDEX, (x, level) -> x.run(level, 0, 0));
    }

    static void promise11RunMinusOneIsRefused() {
        for (int level = 0; level < 4; level++) {
            int at = level;
            Edges.refused(Edges.INDEX, x -> x.run(at, -1, 0));
        }
    }

    static void promise11LastRunIsTold() {
        for (int level = 0; level < 4; level++) {
            SlipLevels x = Edges.laid(Edges.laid(Edges.fresh(), level, 7, 70), level, 8, 80, 9, 90);
            Edges.same("latest", x.run(level, 0, 0), 2);
            Edges.same("last", x.run(level, 1, 0), 1);
        }
    }

    static void promise11OneRunMoreIsRefused() {
        for (int level = 0; level < 4; level++) {
            int at = level;
            Edges.refusedOn(Edges::fresh, Edges.INDEX, x -> x.run(at, 0, 0));
            Edges.refusedOn(() -> Edges.laid(Edges.fresh(), at, 7, 70), Edges.INDEX, x -> x.run(at, 1, 0));
            Edges.refusedOn(Edges::brim, Edges.INDEX, x -> x.run(at, 2, 0));
            Edges.refusedOn(Edges::brim, Edges.INDEX, x -> x.run(at, 3, 0));
        }
    }

    static void promise11RunsFarOffAreRefused() {
        Edges.refused(Edges.FAR_OFF, Edges.INDEX, (x, run) -> x.run(0, run, 0));
        Edges.refused(Edges.FAR_OFF, Edges.INDEX, (x, run) -> x.run(3, run, 0));
    }

    static void promise11WhatMinusOneIsRefused() {
        Edges.refused(Edges.INDEX, x -> x.run(0, 0, -1));
    }

    static void promise11What6IsRefused() {
        Edges.refused(Edges.INDEX, x -> x.run(0, 0, 6));
    }

    static void promise11WhatsFarOffAreRefused() {
        Edges.refused(Edges.FAR_OFF, Edges.INDEX, (x, what) -> x.run(0, 0, what));
    }

    static void promise11MergedRunsAreGone() {
        SlipLevels x = Edges.bound(run(1, 10), 2, 20);
        x.merge(0);
        Edges.same("run 0", Edges.thrown(x, y -> y.run(0, 0, 0)), "threw " + Edges.INDEX.getName());
        Edges.same("run 1", Edges.thrown(x, y -> y.run(0, 1, 0)), "threw " + Edges.INDEX.getName());
    }

    static void promise11OneSlip() {
        for (int number = 0; number < 64; number++) {
            Edges.same("facts", Edges.facts(run(number, 5), 0, 0),
                List.of(1, number, number, 1 << number % 8, 0, 1));
        }
    }

    static void promise11OneTomb() {
        for (int number = 0; number < 64; number++) {
            Edges.same("facts", Edges.facts(run(number, -1), 0, 0),
                List.of(1, number, number, 1 << number % 8, 1, 1));
        }
    }

    static void promise11EightSlips() {
        SlipLevels x = run(63, 1, 0, -1, 9, 2, 18, 3, 27, -1, 36, 4, 45, 5, 54, 6);
        Edges.same("facts", Edges.facts(x, 0, 0), List.of(8, 0, 63, 255, 2, 8));
    }

    static void promise11All64() {
        SlipLevels x = Edges.whole();
        Edges.same("facts", Edges.facts(x, 2, 0), List.of(64, 0, 63, 255, 0, 64));
    }

    static void promise11AllAreTombs() {
        SlipLevels x = Edges.laid(Edges.fresh(), 3, 5, 50);
        x.setRoom(8);
        for (int number = 0; number < 64; number++) {
            x.strike(number);
        }
        x.merge(0);
        Edges.same("facts", Edges.facts(x, 2, 0), List.of(64, 0, 63, 255, 64, 64));
        Edges.same("below", Edges.facts(x, 3, 0), List.of(1, 5, 5, 32, 0, 0));
    }

    static void promise11HoleIsOpenedOnce() {
        SlipLevels x = run(0, 1, 8, 1, 16, 1, 7, 1, 63, 1);
        Edges.same("sieve", x.run(0, 0, 3), 1 + 128);
    }

    static void promise11WordForATombOnTheDesk() {
        SlipLevels x = Edges.put(Edges.fresh(), 5, -1, 5, 50, 6, 60, 6, -1, 7, -1, 7, -1);
        x.bind();
        Edges.same("facts", Edges.facts(x, 0, 0), List.of(3, 5, 7, 32 + 64 + 128, 2, 3));
    }

    static void promise11LeftOutTombsSetNoEnds() {
        SlipLevels x = run(0, -1, 20, 1, 21, 2, 63, -1);
        x.merge(0);
        Edges.same("facts", Edges.facts(x, 1, 0), List.of(2, 20, 21, 16 + 32, 0, 2));
    }

    static void promise11DeskGoesFirst() {
        SlipLevels x = Edges.put(run(5, 50, 6, 60, 7, -1), 5, 51);
        Edges.same("a word", x.run(0, 0, 5), 2);
        x.strike(6);
        Edges.same("a tomb", x.run(0, 0, 5), 1);
        x.strike(7);
        Edges.same("none is left", x.run(0, 0, 5), 0);
    }

    static void promise11LaterRunsGoFirst() {
        SlipLevels x = Edges.bound(run(5, 50, 6, -1, 7, 70), 5, -1, 6, 61, 8, 80);
        Edges.same("latest", x.run(0, 0, 5), 3);
        Edges.same("earlier", x.run(0, 1, 5), 1);
    }

    static void promise11LevelsGoInOrder() {
        for (int level = 1; level < 4; level++) {
            for (int above = 0; above < level; above++) {
                SlipLevels x = Edges.laid(Edges.laid(Edges.fresh(), level, 5, 50, 6, 60), above, 5, 51, 6, -1);
                Edges.same("above", x.run(above, 0, 5), 2);
                Edges.same("below", x.run(level, 0, 5), 0);
            }
        }
    }

    static void promise11TombsThatStandAreTold() {
        SlipLevels x = run(5, -1, 6, -1);
        Edges.same("stand", x.run(0, 0, 5), 2);
    }

    static void promise11NothingIsChanged() {
        for (int what = 0; what < 6; what++) {
            int at = what;
            Edges.unchangedBy(Edges::brim, Edges.brim().run(3, 1, at), x -> x.run(3, 1, at));
        }
    }

    // ---- promise 12: slip

    static void promise12LevelMinusOneIsRefused() {
        Edges.refused(Edges.INDEX, x -> x.slip(-1, 0, 0));
    }

    static void promise12Level4IsRefused() {
        Edges.refused(Edges.INDEX, x -> x.slip(4, 0, 0));
    }

    static void promise12LevelsFarOffAreRefused() {
        Edges.refused(Edges.FAR_OFF, Edges.INDEX, (x, level) -> x.slip(level, 0, 0));
    }

    static void promise12RunMinusOneIsRefused() {
        for (int level = 0; level < 4; level++) {
            int at = level;
            Edges.refused(Edges.INDEX, x -> x.slip(at, -1, 0));
        }
    }

    static void promise12OneRunMoreIsRefused() {
        for (int level = 0; level < 4; level++) {
            int at = level;
            Edges.refusedOn(Edges::fresh, Edges.INDEX, x -> x.slip(at, 0, 0));
            Edges.refusedOn(() -> Edges.laid(Edges.fresh(), at, 7, 70), Edges.INDEX, x -> x.slip(at, 1, 0));
            Edges.refusedOn(Edges::brim, Edges.INDEX, x -> x.slip(at, 2, 0));
        }
    }

    static void promise12RunsFarOffAreRefused() {
        Edges.refused(Edges.FAR_OFF, Edges.INDEX, (x, run) -> x.slip(0, run, 0));
        Edges.refused(Edges.FAR_OFF, Edges.INDEX, (x, run) -> x.slip(3, run, 0));
    }

    static void promise12PlaceMinusOneIsRefused() {
        Edges.refused(Edges.INDEX, x -> x.slip(0, 0, -1));
        Edges.refusedOn(Edges::whole, Edges.INDEX, x -> x.slip(2, 0, -1));
    }

    static void promise12FirstAndLastPlace() {
        SlipLevels x = run(40, 1, 3, -1, 7, 70);
        Edges.same("first", x.slip(0, 0, 0), -4);
        Edges.same("last", x.slip(0, 0, 2), 4001);
    }

    static void promise12OnePlaceMoreIsRefused() {
        Edges.refusedOn(() -> run(40, 1), Edges.INDEX, x -> x.slip(0, 0, 1));
        Edges.refusedOn(() -> run(40, 1, 3, -1, 7, 70), Edges.INDEX, x -> x.slip(0, 0, 3));
        Edges.refusedOn(Edges::whole, Edges.INDEX, x -> x.slip(2, 0, 64));
    }

    static void promise12PlacesFarOffAreRefused() {
        Edges.refused(Edges.FAR_OFF, Edges.INDEX, (x, place) -> x.slip(0, 0, place));
        for (int place : Edges.FAR_OFF) {
            Edges.refusedOn(Edges::whole, Edges.INDEX, x -> x.slip(2, 0, place));
        }
    }

    static void promise12LeastAndGreatestSlip() {
        SlipLevels x = run(0, 0, 63, 99);
        Edges.same("number 0, word 0", x.slip(0, 0, 0), 0);
        Edges.same("number 63, word 99", x.slip(0, 0, 1), 6399);
    }

    static void promise12LeastAndGreatestTomb() {
        SlipLevels x = run(0, -1, 63, -1);
        Edges.same("number 0", x.slip(0, 0, 0), -1);
        Edges.same("number 63", x.slip(0, 0, 1), -64);
    }

    static void promise12All64() {
        SlipLevels x = Edges.whole();
        for (int place = 0; place < 64; place++) {
            Edges.same("place " + place, x.slip(2, 0, place), 100 * place + 36 + place);
        }
    }

    static void promise12HiddenSlipsAreToldToo() {
        SlipLevels x = Edges.put(Edges.bound(run(5, 50), 5, -1), 5, 52);
        Edges.same("latest", x.slip(0, 0, 0), -6);
        Edges.same("earlier", x.slip(0, 1, 0), 550);
    }

    static void promise12NothingIsChanged() {
        Edges.unchangedBy(Edges::brim, 3, x -> x.slip(3, 1, 0));
    }

    // ---- promise 13: desk

    static void promise13EmptyDeskHasNoPlace() {
        Edges.refusedOn(Edges::fresh, Edges.INDEX, x -> x.desk(0));
        Edges.refusedOn(() -> run(1, 10, 2, 20), Edges.INDEX, x -> x.desk(0));
    }

    static void promise13PlaceMinusOneIsRefused() {
        Edges.refused(Edges.INDEX, x -> x.desk(-1));
    }

    static void promise13FirstAndLastPlace() {
        SlipLevels x = Edges.put(Edges.fresh(), 63, 99, 30, 5, 0, 0);
        Edges.same("first", x.desk(0), 0);
        Edges.same("last", x.desk(2), 6399);
    }

    static void promise13OnePlaceMoreIsRefused() {
        Edges.refusedOn(() -> Edges.put(Edges.fresh(), 5, 50), Edges.INDEX, x -> x.desk(1));
        Edges.refusedOn(Edges::layered, Edges.INDEX, x -> x.desk(2));
        Edges.refusedOn(Edges::brim, Edges.INDEX, x -> x.desk(3));
    }

    static void promise13PlacesFarOffAreRefused() {
        Edges.refused(Edges.FAR_OFF, Edges.INDEX, SlipLevels::desk);
    }

    static void promise13RoomIsNoPlace() {
        SlipLevels x = Edges.put(Edges.fresh(), 5, 50, 6, 60, 7, 70);
        Edges.same("place 3 of a room for 4", Edges.thrown(x, y -> y.desk(3)), "threw " + Edges.INDEX.getName());
    }

    static void promise13LeastAndGreatestTomb() {
        SlipLevels x = Edges.put(Edges.fresh(), 63, -1, 0, -1);
        Edges.same("number 0", x.desk(0), -1);
        Edges.same("number 63", x.desk(1), -64);
    }

    static void promise13SevenSlipsByTheirNumbers() {
        SlipLevels x = Edges.fresh();
        x.setRoom(8);
        Edges.put(x, 63, 1, 0, 2, 9, 3, 8, -1, 62, 5, 1, 6, 31, 7);
        Edges.same("desk", Edges.desk(x), List.of(2, 106, -9, 903, 3107, 6205, 6301));
        Edges.same("place 7", Edges.thrown(x, y -> y.desk(7)), "threw " + Edges.INDEX.getName());
    }

    static void promise13PlaceKeepsAsASlipIsReplaced() {
        SlipLevels x = Edges.put(Edges.fresh(), 5, 50, 6, 60, 5, 51);
        Edges.same("desk", Edges.desk(x), List.of(551, 660));
    }

    static void promise13BoundSlipsAreGone() {
        SlipLevels x = Edges.put(Edges.fresh(), 5, 50, 6, 60);
        x.bind();
        Edges.same("place 0", Edges.thrown(x, y -> y.desk(0)), "threw " + Edges.INDEX.getName());
    }

    static void promise13NothingIsChanged() {
        Edges.unchangedBy(Edges::brim, -7, x -> x.desk(1));
    }

    // ---- promise 14: level

    static void promise14LevelMinusOneIsRefused() {
        Edges.refused(Edges.INDEX, x -> x.level(-1, 0));
    }

    static void promise14Level4IsRefused() {
        Edges.refused(Edges.INDEX, x -> x.level(4, 0));
    }

    static void promise14LevelsFarOffAreRefused() {
        Edges.refused(Edges.FAR_OFF, Edges.INDEX, (x, level) -> x.level(level, 0));
    }

    static void promise14WhatMinusOneIsRefused() {
        Edges.refused(Edges.INDEX, x -> x.level(0, -1));
    }

    static void promise14What3IsRefused() {
        Edges.refused(Edges.INDEX, x -> x.level(0, 3));
        Edges.refused(Edges.INDEX, x -> x.level(3, 3));
    }

    static void promise14WhatsFarOffAreRefused() {
        Edges.refused(Edges.FAR_OFF, Edges.INDEX, (x, what) -> x.level(1, what));
    }

    static void promise14NothingThereIsZero() {
        for (int level = 0; level < 4; level++) {
            for (int what = 0; what < 3; what++) {
                Edges.same("a new one", Edges.fresh().level(level, what), 0);
                Edges.same("the desk is no level", Edges.put(Edges.fresh(), 5, -1).level(level, what), 0);
            }
        }
    }

    static void promise14RunsOfEachLevelAreAddedUp() {
        for (int level = 0; level < 4; level++) {
            SlipLevels x = Edges.laid(Edges.laid(Edges.fresh(), level, 7, 70, 8, 80), level, 7, -1, 9, 90, 6, -1);
            Edges.same("runs", x.level(level, 0), 2);
            Edges.same("slips", x.level(level, 1), 5);
            Edges.same("tombs", x.level(level, 2), 2);
            for (int other = 0; other < 4; other++) {
                for (int what = 0; what < 3 && other != level; what++) {
                    Edges.same("of another level", x.level(other, what), 0);
                }
            }
        }
    }

    static void promise14AllSlipsAreTombs() {
        SlipLevels x = Edges.bound(run(5, -1, 6, -1), 5, -1);
        Edges.same("slips", x.level(0, 1), 3);
        Edges.same("tombs", x.level(0, 2), 3);
    }

    static void promise14HiddenSlipsCount() {
        SlipLevels x = Edges.put(Edges.bound(run(5, 50), 5, 51), 5, 52);
        Edges.same("slips", x.level(0, 1), 2);
    }

    static void promise14TwoRunsOfAll64() {
        SlipLevels x = Edges.fresh();
        x.setRoom(8);
        for (int slip = 0; slip < 128; slip++) {
            x.write(slip % 64, slip % 100);
            if (slip % 64 == 63) {
                x.merge(0);
                x.merge(2);
            }
        }
        Edges.same("runs", x.level(3, 0), 2);
        Edges.same("slips", x.level(3, 1), 128);
        Edges.same("tombs", x.level(3, 2), 0);
        Edges.same("the later one stands", x.run(3, 0, 5), 64);
        Edges.same("the earlier one does not", x.run(3, 1, 5), 0);
    }

    static void promise14NothingIsChanged() {
        Edges.unchangedBy(Edges::brim, 2, x -> x.level(2, 0));
        Edges.unchangedBy(Edges::brim, 6, x -> x.level(2, 1));
        Edges.unchangedBy(Edges::brim, 2, x -> x.level(2, 2));
    }

    // ---- promise 15: count

    static void promise15WhatMinusOneIsRefused() {
        Edges.refused(Edges.INDEX, x -> x.count(-1));
    }

    static void promise15What7IsRefused() {
        Edges.refused(Edges.INDEX, x -> x.count(7));
    }

    static void promise15WhatsFarOffAreRefused() {
        Edges.refused(Edges.FAR_OFF, Edges.INDEX, SlipLevels::count);
    }

    static void promise15NothingThereIsZero() {
        Edges.same("counts", Edges.counts(Edges.fresh()), List.of(0, 4, 0, 0, 0, 0, 0));
    }

    static void promise15AllAreApart() {
        SlipLevels x = Edges.layered();
        x.read(18);
        x.setRoom(6);
        Edges.same("counts", Edges.counts(x), List.of(2, 6, 10, 6, 14, 3, 1));
    }

    static void promise15DeskOneShortOfItsRoom() {
        SlipLevels x = Edges.fresh();
        x.setRoom(8);
        Edges.put(x, 0, 1, 1, -1, 2, 3, 3, -1, 4, 5, 5, 6, 63, 7);
        Edges.same("counts", Edges.counts(x), List.of(7, 8, 0, 5, 0, 0, 0));
    }

    static void promise15DeskIsNoRun() {
        SlipLevels x = Edges.put(run(5, 50, 6, -1), 7, 70, 8, -1);
        Edges.same("slips of all runs, tombs too", x.count(2), 2);
        Edges.same("slips on the desk, tombs too", x.count(0), 2);
        Edges.same("words stand on both", x.count(3), 2);
    }

    static void promise15HiddenSlipsCountAsSlipsAlone() {
        SlipLevels x = Edges.put(Edges.bound(run(5, 50), 5, 51), 5, 52);
        Edges.same("slips of all runs", x.count(2), 2);
        Edges.same("one word stands", x.count(3), 1);
        x.strike(5);
        Edges.same("none stands", x.count(3), 0);
    }

    static void promise15WordZeroStands() {
        SlipLevels x = Edges.put(run(0, 0, 63, 0), 7, 0);
        Edges.same("words", x.count(3), 3);
    }

    static void promise15All64() {
        SlipLevels x = Edges.whole();
        Edges.same("slips", x.count(2), 64);
        Edges.same("words", x.count(3), 64);
        Edges.same("moves", x.count(4), 64 + 48 + 16 + 64);
        Edges.same("mergings", x.count(6), 2 + 1 + 1);
    }

    static void promise15MovesOfBindingAndMergingAreAdded() {
        SlipLevels x = run(1, 10, 2, 20, 3, -1);
        Edges.same("bound", x.count(4), 3);
        x.merge(0);
        Edges.same("merged without the tomb", x.count(4), 5);
        x.bind();
        Edges.same("nothing bound", x.count(4), 5);
        x.merge(1);
        Edges.same("merged once more", x.count(4), 7);
    }

    static void promise15MergingsOfBothKindsAreCounted() {
        SlipLevels x = Edges.bound(Edges.bound(run(1, 10), 2, 20), 3, 30);
        Edges.same("settled", x.count(6), 1);
        x.merge(1);
        Edges.same("asked for", x.count(6), 2);
    }

    static void promise15WhatWouldBeIsNotCounted() {
        SlipLevels x = Edges.brim();
        List<Integer> before = Edges.counts(x);
        x.spares(0);
        x.advise();
        x.mean();
        x.digest();
        x.detours(16);
        x.next(0);
        x.sum(0, 63);
        Edges.same("counts", Edges.counts(x), before);
    }

    static void promise15NothingIsChanged() {
        for (int what = 0; what < 7; what++) {
            int at = what;
            Edges.unchangedBy(Edges::brim, Edges.brim().count(at), x -> x.count(at));
        }
    }
}
