import java.util.List;

/** The edges of promises 1 to 6, and of binding, merging and settling; a test for each sentence. */
public final class EdgeWritingTest {
    public static void main(String[] args) {
        Edges.runAll(EdgeWritingTest.class, 1, 6);
    }

    private static long of(boolean answer) {
        return answer ? 1 : 0;
    }

    // ---- promise 1: a new object

    static void promise1DeskIsEmpty() {
        Edges.same("slips on the desk", Edges.fresh().count(0), 0);
        Edges.refusedOn(Edges::fresh, Edges.INDEX, x -> x.desk(0));
    }

    static void promise1RoomIsFour() {
        SlipLevels x = Edges.fresh();
        Edges.same("room", x.count(1), 4);
        Edges.same("first", x.write(1, 1), false);
        Edges.same("second", x.write(2, 1), false);
        Edges.same("third", x.write(3, 1), false);
        Edges.same("fourth", x.write(4, 1), true);
    }

    static void promise1FourLevelsWithoutRuns() {
        SlipLevels x = Edges.fresh();
        for (int level = 0; level < 4; level++) {
            for (int what = 0; what < 3; what++) {
                Edges.same("level " + level + ", " + what, x.level(level, what), 0);
            }
            int at = level;
            Edges.refusedOn(Edges::fresh, Edges.INDEX, y -> y.run(at, 0, 0));
        }
    }

    static void promise1NothingStands() {
        SlipLevels x = Edges.fresh();
        for (int number = 0; number < 64; number++) {
            Edges.same("read " + number, x.read(number), -1);
            Edges.same("next " + number, x.next(number), -1);
        }
        Edges.same("sum", x.sum(0, 63), 0);
        Edges.same("words", x.count(3), 0);
    }

    static void promise1NothingIsCounted() {
        Edges.same("counts", Edges.counts(Edges.fresh()), List.of(0, 4, 0, 0, 0, 0, 0));
        Edges.same("mean", Edges.fresh().mean(), 0.0);
        Edges.same("advice", Edges.fresh().advise(), -1);
    }

    static void promise1ObjectsStandApart() {
        String alone = Edges.told(Edges.fresh());
        SlipLevels x = Edges.brim();
        SlipLevels y = Edges.fresh();
        Edges.same("a new one beside a full one", Edges.told(y), alone);
        y.setRoom(1);
        y.write(1, 1);
        y.merge(0);
        Edges.same("the full one", Edges.told(x), Edges.told(Edges.brim()));
    }

    // ---- promise 2: write

    static void promise2NumberMinusOneIsRefused() {
        Edges.refused(Edges.INDEX, x -> of(x.write(-1, 5)));
    }

    static void promise2NumberZeroIsTaken() {
        SlipLevels x = Edges.fresh();
        Edges.same("bound", x.write(0, 5), false);
        Edges.same("desk", Edges.desk(x), List.of(5));
        Edges.same("read", x.read(0), 5);
    }

    static void promise2Number63IsTaken() {
        SlipLevels x = Edges.fresh();
        Edges.same("bound", x.write(63, 5), false);
        Edges.same("desk", Edges.desk(x), List.of(6305));
        Edges.same("read", x.read(63), 5);
    }

    static void promise2Number64IsRefused() {
        Edges.refused(Edges.INDEX, x -> of(x.write(64, 5)));
    }

    static void promise2NumbersFarOffAreRefused() {
        Edges.refused(Edges.FAR_OFF, Edges.INDEX, (x, number) -> of(x.write(number, 5)));
    }

    static void promise2WordMinusOneIsRefused() {
        Edges.refused(Edges.ARGUMENT, x -> of(x.write(5, -1)));
    }

    static void promise2WordZeroIsTaken() {
        SlipLevels x = Edges.fresh();
        Edges.same("bound", x.write(7, 0), false);
        Edges.same("desk", Edges.desk(x), List.of(700));
        Edges.same("read", x.read(7), 0);
        Edges.same("it stands", x.count(3), 1);
    }

    static void promise2Word99IsTaken() {
        SlipLevels x = Edges.fresh();
        Edges.same("bound", x.write(7, 99), false);
        Edges.same("desk", Edges.desk(x), List.of(799));
        Edges.same("read", x.read(7), 99);
    }

    static void promise2Word100IsRefused() {
        Edges.refused(Edges.ARGUMENT, x -> of(x.write(5, 100)));
    }

    static void promise2WordsFarOffAreRefused() {
        Edges.refused(Edges.FAR_OFF, Edges.ARGUMENT, (x, word) -> of(x.write(5, word)));
    }

    static void promise2NumberIsRefusedBeforeTheWord() {
        Edges.refused(Edges.INDEX, x -> of(x.write(-1, -1)));
        Edges.refused(Edges.INDEX, x -> of(x.write(64, 100)));
        Edges.refused(Edges.INDEX, x -> of(x.write(-1, 100)));
        Edges.refused(Edges.INDEX, x -> of(x.write(Edges.HIGH, Edges.LOW)));
    }

    static void promise2RefusedCallLeavesADeskOneShort() {
        SlipLevels x = Edges.brim();
        Edges.thrown(x, y -> of(y.write(64, 5)));
        Edges.thrown(x, y -> of(y.write(5, 100)));
        Edges.same("desk", Edges.desk(x), List.of(555, -7, 6101));
        Edges.same("runs", Edges.runs(x), List.of(2, 2, 2, 2));
    }

    static void promise2OneShortOfTheRoomIsNotBound() {
        for (int room = 2; room <= 8; room++) {
            SlipLevels x = Edges.fresh();
            x.setRoom(room);
            for (int slip = 1; slip < room; slip++) {
                Edges.same("slip " + slip + " of " + room, x.write(63 - slip, 1), false);
            }
            Edges.same("desk of " + room, x.count(0), room - 1);
            Edges.same("runs of " + room, x.level(0, 0), 0);
        }
    }

    static void promise2AsManyAsTheRoomAreBound() {
        for (int room = 1; room <= 8; room++) {
            SlipLevels x = Edges.fresh();
            x.setRoom(room);
            for (int slip = 1; slip < room; slip++) {
                x.write(63 - slip, 1);
            }
            Edges.same("the last of " + room, x.write(63 - room, 1), true);
            Edges.same("desk of " + room, x.count(0), 0);
            Edges.same("run of " + room, x.run(0, 0, 0), room);
        }
    }

    static void promise2RoomForOneBindsEachSlip() {
        SlipLevels x = Edges.fresh();
        x.setRoom(1);
        Edges.same("first", x.write(1, 10), true);
        Edges.same("same number", x.write(1, 11), true);
        Edges.same("runs", Edges.runs(x), List.of(2, 0, 0, 0));
    }

    static void promise2SameNumberOnADeskOneShortIsNotBound() {
        SlipLevels x = Edges.put(Edges.fresh(), 1, 10, 2, 20, 3, 30);
        for (int word = 40; word < 50; word++) {
            Edges.same("once more", x.write(2, word), false);
        }
        Edges.same("desk", Edges.desk(x), List.of(110, 249, 330));
        Edges.same("moves", x.count(4), 0);
    }

    static void promise2SameNumberTakesThePlaceOnTheDeskAlone() {
        SlipLevels x = Edges.bound(Edges.fresh(), 2, 20);
        Edges.same("not bound", x.write(2, 21), false);
        Edges.same("the run stays", Edges.slips(x, 0, 0), List.of(220));
        Edges.same("desk", Edges.desk(x), List.of(221));
    }

    static void promise2WordTakesThePlaceOfATomb() {
        SlipLevels x = Edges.put(Edges.fresh(), 0, -1, 63, -1);
        x.write(0, 0);
        x.write(63, 99);
        Edges.same("desk", Edges.desk(x), List.of(0, 6399));
        Edges.same("slips", x.count(0), 2);
        x.bind();
        Edges.same("no tombs", x.run(0, 0, 4), 0);
    }

    static void promise2SecondRunIsNotMerged() {
        SlipLevels x = Edges.fresh();
        x.setRoom(1);
        x.write(1, 10);
        x.write(2, 20);
        Edges.same("runs", Edges.runs(x), List.of(2, 0, 0, 0));
        Edges.same("mergings", x.count(6), 0);
    }

    static void promise2ThirdRunIsMerged() {
        SlipLevels x = Edges.fresh();
        x.setRoom(1);
        x.write(1, 10);
        x.write(2, 20);
        Edges.same("bound", x.write(3, 30), true);
        Edges.same("runs", Edges.runs(x), List.of(0, 1, 0, 0));
        Edges.same("moves", x.count(4), 3 + 3);
    }

    static void promise2LastSlipOnTheBrimMovesAll() {
        SlipLevels x = Edges.brim();
        Edges.same("bound", x.write(7, 70), true);
        Edges.same("runs", Edges.runs(x), List.of(0, 0, 0, 1));
        Edges.same("tombs", x.level(3, 2), 0);
        Edges.same("slips", Edges.slips(x, 3, 0), List.of(0, 177, 277, 377, 477, 555, 770, 6101, 6309));
    }

    static void promise2TheLastOf512Calls() {
        SlipLevels x = Edges.fresh();
        x.setRoom(1);
        int[] words = new int[64];
        for (int call = 2; call < 512; call++) {
            words[call % 64] = call % 100;
            Edges.same("call " + call, x.write(call % 64, call % 100), true);
        }
        int due = 0;
        for (int word : words) {
            due += word;
        }
        Edges.same("call 512", x.sum(0, 63), due);
    }

    // ---- promise 3: strike

    static void promise3NumberMinusOneIsRefused() {
        Edges.refused(Edges.INDEX, x -> of(x.strike(-1)));
    }

    static void promise3NumberZeroIsTaken() {
        SlipLevels x = Edges.fresh();
        Edges.same("bound", x.strike(0), false);
        Edges.same("desk", Edges.desk(x), List.of(-1));
    }

    static void promise3Number63IsTaken() {
        SlipLevels x = Edges.fresh();
        Edges.same("bound", x.strike(63), false);
        Edges.same("desk", Edges.desk(x), List.of(-64));
    }

    static void promise3Number64IsRefused() {
        Edges.refused(Edges.INDEX, x -> of(x.strike(64)));
    }

    static void promise3NumbersFarOffAreRefused() {
        Edges.refused(Edges.FAR_OFF, Edges.INDEX, (x, number) -> of(x.strike(number)));
    }

    static void promise3NothingNeedStand() {
        SlipLevels x = Edges.fresh();
        x.strike(9);
        Edges.same("a tomb lies there", Edges.desk(x), List.of(-10));
        Edges.same("slips", x.count(0), 1);
        Edges.same("nothing stands", x.read(9), -1);
    }

    static void promise3TombTakesThePlaceOfAWord() {
        SlipLevels x = Edges.put(Edges.fresh(), 0, 0, 63, 99, 5, 50);
        Edges.same("not bound", x.strike(0), false);
        Edges.same("not bound", x.strike(63), false);
        Edges.same("desk", Edges.desk(x), List.of(-1, 550, -64));
        x.bind();
        Edges.same("tombs", x.run(0, 0, 4), 2);
    }

    static void promise3TombTakesThePlaceOfATomb() {
        SlipLevels x = Edges.put(Edges.fresh(), 5, -1, 6, -1, 7, -1);
        Edges.same("not bound", x.strike(6), false);
        Edges.same("desk", Edges.desk(x), List.of(-6, -7, -8));
        x.bind();
        Edges.same("tombs", x.run(0, 0, 4), 3);
    }

    static void promise3OneShortOfTheRoomIsNotBound() {
        SlipLevels x = Edges.fresh();
        Edges.same("first", x.strike(1), false);
        Edges.same("second", x.strike(2), false);
        Edges.same("third", x.strike(3), false);
        Edges.same("no moves", x.count(4), 0);
    }

    static void promise3AsManyAsTheRoomAreBound() {
        SlipLevels x = Edges.put(Edges.fresh(), 1, -1, 2, -1, 3, -1);
        Edges.same("fourth", x.strike(4), true);
        Edges.same("tombs are bound, though nothing lies below", Edges.slips(x, 0, 0), List.of(-2, -3, -4, -5));
        Edges.same("moves", x.count(4), 4);
        Edges.same("desk", x.count(0), 0);
    }

    static void promise3RoomForOneBindsEachTomb() {
        SlipLevels x = Edges.fresh();
        x.setRoom(1);
        Edges.same("first", x.strike(1), true);
        Edges.same("run", Edges.slips(x, 0, 0), List.of(-2));
    }

    static void promise3TombHidesWhatLiesBelow() {
        SlipLevels x = Edges.laid(Edges.fresh(), 3, 0, 10, 63, 20);
        x.strike(0);
        Edges.same("on the desk", x.read(0), -1);
        x.bind();
        Edges.same("in a run", x.read(0), -1);
        Edges.same("the other one", x.read(63), 20);
    }

    static void promise3LastTombOnTheBrimMovesAll() {
        SlipLevels x = Edges.brim();
        Edges.same("bound", x.strike(7), true);
        Edges.same("runs", Edges.runs(x), List.of(0, 0, 0, 1));
        Edges.same("tombs", x.level(3, 2), 0);
    }

    // ---- promise 4: bind, and settling

    static void promise4EmptyDeskIsNothing() {
        Edges.unchangedBy(Edges::fresh, 0, x -> x.bind());
        Edges.unchangedBy(EdgeWritingTest::twoRunsEverywhere, 0, x -> x.bind());
    }

    private static SlipLevels twoRunsEverywhere() {
        SlipLevels x = Edges.fresh();
        for (int level = 3; level >= 0; level--) {
            Edges.laid(x, level, 10 + level, 1, 20, level);
            Edges.laid(x, level, 11 + level, 1, 20, -1);
        }
        return x;
    }

    static void promise4OneSlipIsBound() {
        SlipLevels x = Edges.put(Edges.fresh(), 5, 50);
        Edges.same("moves", x.bind(), 1);
        Edges.same("desk", x.count(0), 0);
        Edges.same("run", Edges.facts(x, 0, 0), List.of(1, 5, 5, 32, 0, 1));
        Edges.same("once more", x.bind(), 0);
    }

    static void promise4OneTombIsBound() {
        SlipLevels x = Edges.put(Edges.fresh(), 5, -1);
        Edges.same("moves", x.bind(), 1);
        Edges.same("run", Edges.facts(x, 0, 0), List.of(1, 5, 5, 32, 1, 1));
    }

    static void promise4SevenOfEightAreBound() {
        SlipLevels x = Edges.fresh();
        x.setRoom(8);
        Edges.put(x, 63, 1, 0, 2, 9, 3, 8, -1, 62, 5, 1, 6, 31, 7);
        Edges.same("moves", x.bind(), 7);
        Edges.same("by numbers", Edges.slips(x, 0, 0), List.of(2, 106, -9, 903, 3107, 6205, 6301));
        Edges.same("the room stays", x.count(1), 8);
    }

    static void promise4BoundRunIsTheLatest() {
        SlipLevels x = Edges.bound(Edges.fresh(), 5, 50);
        Edges.put(x, 5, 51).bind();
        Edges.same("latest", Edges.slips(x, 0, 0), List.of(551));
        Edges.same("earlier", Edges.slips(x, 0, 1), List.of(550));
        Edges.same("word", x.read(5), 51);
    }

    static void promise4TwoRunsAreNotMerged() {
        SlipLevels x = Edges.bound(Edges.fresh(), 5, 50);
        Edges.put(x, 5, 51);
        Edges.same("moves", x.bind(), 1);
        Edges.same("runs", Edges.runs(x), List.of(2, 0, 0, 0));
        Edges.same("mergings", x.count(6), 0);
    }

    static void promise4ThreeRunsAreMerged() {
        SlipLevels x = Edges.bound(Edges.bound(Edges.fresh(), 5, 50), 6, 60);
        Edges.put(x, 5, 51);
        Edges.same("moves of merging, too", x.bind(), 1 + 2);
        Edges.same("runs", Edges.runs(x), List.of(0, 1, 0, 0));
        Edges.same("slips", Edges.slips(x, 1, 0), List.of(551, 660));
        Edges.same("mergings", x.count(6), 1);
    }

    static void promise4NextLevelWithTwoIsNotMerged() {
        SlipLevels x = Edges.laid(Edges.fresh(), 1, 1, 10);
        Edges.bound(Edges.bound(x, 2, 20), 3, 30);
        Edges.put(x, 4, 40);
        Edges.same("moves", x.bind(), 1 + 3);
        Edges.same("runs", Edges.runs(x), List.of(0, 2, 0, 0));
    }

    static void promise4LevelsAreSettledOneAfterAnother() {
        SlipLevels x = Edges.fresh();
        x.setRoom(1);
        for (int number = 0; number < 26; number++) {
            x.write(number, number);
        }
        Edges.same("before", Edges.runs(x), List.of(2, 2, 2, 0));
        x.setRoom(2);
        x.write(26, 26);
        Edges.same("moves", x.bind(), 1 + 3 + 9 + 27);
        Edges.same("behind", Edges.runs(x), List.of(0, 0, 0, 1));
        Edges.same("mergings", x.count(6), 8 + 2 + 3);
    }

    static void promise4Level3IsSettledAsWell() {
        SlipLevels x = Edges.fresh();
        x.setRoom(1);
        for (int slip = 1; slip <= 80; slip++) {
            x.write(slip % 64, slip);
        }
        Edges.same("before", Edges.runs(x), List.of(2, 2, 2, 2));
        x.setRoom(2);
        x.write(17, 81);
        Edges.same("moves", x.bind(), 1 + 3 + 9 + 27 + 64);
        Edges.same("behind", Edges.runs(x), List.of(0, 0, 0, 1));
        Edges.same("slips", x.run(3, 0, 0), 64);
        Edges.same("a later one for an earlier", x.read(17), 81);
        Edges.same("an earlier one", x.read(18), 18);
    }

    static void promise4TombsAloneComeToNothing() {
        SlipLevels x = Edges.bound(Edges.bound(Edges.fresh(), 1, -1), 2, -1);
        Edges.put(x, 3, -1);
        Edges.same("bound, none merged", x.bind(), 1);
        Edges.same("no run comes", Edges.runs(x), List.of(0, 0, 0, 0));
        Edges.same("moves", x.count(4), 3);
        Edges.same("a merging all the same", x.count(6), 1);
    }

    static void promise4TombsGoOnTillNothingLiesBehind() {
        SlipLevels x = Edges.laid(Edges.laid(Edges.fresh(), 1, 1, 10), 1, 2, 20);
        Edges.bound(Edges.bound(x, 3, -1), 4, 40);
        Edges.put(x, 1, -1, 3, -1);
        Edges.same("two tombs go on to level 1, none to level 2", x.bind(), 2 + 3 + 2);
        Edges.same("runs", Edges.runs(x), List.of(0, 0, 1, 0));
        Edges.same("slips", Edges.slips(x, 2, 0), List.of(220, 440));
    }

    static void promise4TombsAreKeptOverLevel3() {
        SlipLevels x = Edges.laid(Edges.fresh(), 3, 1, 10);
        Edges.bound(Edges.bound(x, 1, -1), 4, 40);
        Edges.put(x, 5, 50);
        Edges.same("moves", x.bind(), 1 + 3);
        Edges.same("slips", Edges.slips(x, 1, 0), List.of(-2, 440, 550));
    }

    // ---- promise 5: merge, and merging a level

    static void promise5LevelMinusOneIsRefused() {
        Edges.refused(Edges.INDEX, x -> x.merge(-1));
    }

    static void promise5Level4IsRefused() {
        Edges.refused(Edges.INDEX, x -> x.merge(4));
    }

    static void promise5LevelsFarOffAreRefused() {
        Edges.refused(Edges.FAR_OFF, Edges.INDEX, SlipLevels::merge);
    }

    static void promise5LevelOutsideIsRefusedBeforeItsRuns() {
        Edges.refusedOn(Edges::fresh, Edges.INDEX, x -> x.merge(-1));
        Edges.refusedOn(Edges::fresh, Edges.INDEX, x -> x.merge(4));
    }

    static void promise5LevelWithoutRunsIsRefused() {
        for (int level = 0; level < 4; level++) {
            int at = level;
            Edges.refusedOn(Edges::fresh, Edges.STATE, x -> x.merge(at));
            Edges.refusedOn(() -> allBut(at), Edges.STATE, x -> x.merge(at));
        }
    }

    /** All levels but this one have runs, and the desk has slips. */
    private static SlipLevels allBut(int level) {
        SlipLevels x = Edges.fresh();
        for (int at = 3; at >= 0; at--) {
            if (at != level) {
                Edges.laid(x, at, 10 + at, at, 50, -1);
                Edges.laid(x, at, 20 + at, at);
            }
        }
        return Edges.put(x, 50, 1, 51, 1);
    }

    static void promise5LevelJustEmptiedIsRefused() {
        SlipLevels x = Edges.bound(Edges.fresh(), 1, 10);
        x.merge(0);
        Edges.same("once more", Edges.thrown(x, y -> y.merge(0)), "threw java.lang.IllegalStateException");
        Edges.same("runs", Edges.runs(x), List.of(0, 1, 0, 0));
    }

    static void promise5OneRunGoesOn() {
        SlipLevels x = Edges.bound(Edges.fresh(), 1, 10, 63, 20);
        for (int level = 0; level < 3; level++) {
            Edges.same("moves", x.merge(level), 2);
            Edges.same("here", x.level(level, 0), 0);
            Edges.same("there", Edges.slips(x, level + 1, 0), List.of(110, 6320));
        }
        Edges.same("mergings", x.count(6), 3);
    }

    static void promise5FirstInTheOrderOfReadingIsTaken() {
        SlipLevels x = Edges.laid(Edges.fresh(), 2, 60, 1);
        Edges.bound(x, 1, 10, 2, 20, 3, -1, 4, 40, 5, -1);
        Edges.bound(x, 1, 11, 2, -1, 3, 31, 6, -1);
        Edges.same("moves", x.merge(0), 6);
        Edges.same("slips", Edges.slips(x, 1, 0), List.of(111, -3, 331, 440, -6, -7));
    }

    static void promise5MergedRunIsTheLatestOfTheNextLevel() {
        for (int level = 0; level < 3; level++) {
            SlipLevels x = Edges.laid(Edges.fresh(), level + 1, 1, 10);
            Edges.laid(x, level, 1, 11);
            Edges.same("moves", x.merge(level), 1);
            Edges.same("latest", Edges.slips(x, level + 1, 0), List.of(111));
            Edges.same("earlier", Edges.slips(x, level + 1, 1), List.of(110));
            Edges.same("read", x.read(1), 11);
        }
    }

    static void promise5Level3AloneStays() {
        SlipLevels x = Edges.laid(Edges.fresh(), 3, 1, 10, 2, 20);
        int before = x.count(6);
        Edges.same("moves", x.merge(3), 2);
        Edges.same("runs", Edges.runs(x), List.of(0, 0, 0, 1));
        Edges.same("a merging", x.count(6), before + 1);
        Edges.same("slips", Edges.slips(x, 3, 0), List.of(110, 220));
    }

    static void promise5Level3BecomesItsOnlyRun() {
        SlipLevels x = Edges.laid(Edges.laid(Edges.fresh(), 3, 1, 10, 2, 20), 3, 2, 21, 3, 30);
        Edges.same("moves", x.merge(3), 3);
        Edges.same("runs", Edges.runs(x), List.of(0, 0, 0, 1));
        Edges.same("slips", Edges.slips(x, 3, 0), List.of(110, 221, 330));
    }

    static void promise5Level3AlwaysLeavesTombsOut() {
        SlipLevels x = Edges.laid(Edges.laid(Edges.fresh(), 3, 7, 70), 3, 7, -1, 8, 80);
        Edges.bound(Edges.laid(x, 2, 9, 90), 10, 1);
        Edges.same("moves", x.merge(3), 1);
        Edges.same("slips", Edges.slips(x, 3, 0), List.of(880));
    }

    /** Nothing lies behind this level, whose run has a tomb of 5 and a word of 6. */
    private static SlipLevels tombWithNothingBehind(int level) {
        SlipLevels x = Edges.laid(Edges.laid(Edges.fresh(), 3, 2, 20), 3, 2, -1);
        Edges.laid(x, level, 5, -1, 6, 60);
        x.merge(3);
        return x;
    }

    static void promise5TombsAreLeftOutIfNothingLiesBehind() {
        for (int level = 0; level < 3; level++) {
            SlipLevels x = tombWithNothingBehind(level);
            Edges.same("there is a tomb", Edges.slips(x, level, 0), List.of(-6, 660));
            Edges.same("moves", x.merge(level), 1);
            Edges.same("slips", Edges.slips(x, level + 1, 0), List.of(660));
        }
    }

    static void promise5TombsAreKeptIfOneLevelBehindHasRuns() {
        for (int behind = 1; behind < 4; behind++) {
            for (int level = 0; level < behind; level++) {
                SlipLevels x = Edges.laid(Edges.fresh(), behind, 9, 90);
                Edges.laid(x, level, 5, -1);
                Edges.same("moves", x.merge(level), 1);
                Edges.same("slips of " + level + " over " + behind, Edges.slips(x, level + 1, 0), List.of(-6));
            }
        }
    }

    static void promise5TombsAreKeptForNothingAbove() {
        for (int level = 1; level < 3; level++) {
            for (int above = 0; above < level; above++) {
                SlipLevels x = Edges.laid(tombWithNothingBehind(level), above, 5, 50);
                Edges.put(x, 5, 51);
                Edges.same("moves", x.merge(level), 1);
                Edges.same("slips of " + level + " under " + above, Edges.slips(x, level + 1, 0), List.of(660));
            }
        }
    }

    static void promise5NoSlipLeftNoRunComes() {
        for (int level = 0; level < 3; level++) {
            SlipLevels x = Edges.laid(Edges.laid(Edges.fresh(), 3, 2, 20), 3, 2, -1);
            Edges.laid(x, level, 5, -1);
            x.merge(3);
            int before = x.count(6);
            int moves = x.count(4);
            Edges.same("moves", x.merge(level), 0);
            Edges.same("runs", Edges.runs(x), List.of(0, 0, 0, 0));
            Edges.same("a merging all the same", x.count(6), before + 1);
            Edges.same("moves in all", x.count(4), moves);
        }
    }

    static void promise5NoSlipLeftOnLevel3() {
        SlipLevels x = Edges.laid(Edges.laid(Edges.fresh(), 3, 2, 20), 3, 2, -1);
        Edges.same("moves", x.merge(3), 0);
        Edges.same("runs", Edges.runs(x), List.of(0, 0, 0, 0));
        Edges.same("a merging all the same", x.count(6), 7);
        Edges.same("then it has no runs", Edges.thrown(x, y -> y.merge(3)),
            "threw java.lang.IllegalStateException");
    }

    static void promise5TwoOnTheNextLevelStay() {
        for (int level = 0; level < 3; level++) {
            SlipLevels x = Edges.laid(Edges.laid(Edges.fresh(), level + 1, 1, 10), level, 2, 20);
            Edges.same("moves", x.merge(level), 1);
            Edges.same("runs of the next", x.level(level + 1, 0), 2);
        }
    }

    static void promise5ThreeOnTheNextLevelAreSettled() {
        for (int level = 0; level < 2; level++) {
            SlipLevels x = Edges.laid(Edges.laid(Edges.fresh(), level + 1, 1, 10), level + 1, 2, 20);
            Edges.laid(x, level, 3, 30);
            Edges.same("moves", x.merge(level), 1 + 3);
            Edges.same("runs of the next", x.level(level + 1, 0), 0);
            Edges.same("slips behind", Edges.slips(x, level + 2, 0), List.of(110, 220, 330));
        }
    }

    static void promise5ThreeOnLevel3AreSettled() {
        SlipLevels x = Edges.laid(Edges.laid(Edges.fresh(), 3, 1, 10, 2, 20), 3, 2, -1);
        Edges.laid(x, 2, 3, 30);
        Edges.same("moves", x.merge(2), 1 + 2);
        Edges.same("runs", Edges.runs(x), List.of(0, 0, 0, 1));
        Edges.same("slips", Edges.slips(x, 3, 0), List.of(110, 330));
    }

    static void promise5AllLevelsOfTwoAreSettled() {
        SlipLevels x = twoRunsEverywhere();
        int before = x.count(6);
        x.merge(0);
        Edges.same("runs", Edges.runs(x), List.of(0, 0, 0, 1));
        Edges.same("mergings", x.count(6), before + 4);
    }

    static void promise5LevelsAboveStay() {
        SlipLevels x = twoRunsEverywhere();
        x.merge(2);
        Edges.same("runs", Edges.runs(x), List.of(2, 2, 0, 1));
    }

    static void promise5All64Numbers() {
        SlipLevels x = Edges.fresh();
        x.setRoom(8);
        for (int number = 0; number < 64; number++) {
            x.write(number, number);
        }
        Edges.same("before", Edges.runs(x), List.of(2, 2, 0, 0));
        Edges.same("moves", x.merge(0), 16 + 64);
        Edges.same("slips", x.run(2, 0, 0), 64);
        Edges.same("once more", x.merge(2), 64);
    }

    static void promise5DeskStays() {
        SlipLevels x = Edges.layered();
        x.merge(0);
        x.merge(1);
        Edges.same("desk", Edges.desk(x), List.of(241, -41));
    }

    // ---- promise 6: setRoom

    static void promise6RoomZeroIsRefused() {
        Edges.refused(Edges.ARGUMENT, x -> x.setRoom(0));
    }

    static void promise6RoomOneIsTaken() {
        SlipLevels x = Edges.fresh();
        Edges.same("before", x.setRoom(1), 4);
        Edges.same("now", x.count(1), 1);
        Edges.same("an empty desk is not bound", x.level(0, 0), 0);
        Edges.same("the first is bound", x.write(1, 1), true);
    }

    static void promise6RoomEightIsTaken() {
        SlipLevels x = Edges.fresh();
        Edges.same("before", x.setRoom(8), 4);
        Edges.same("now", x.count(1), 8);
        for (int slip = 1; slip < 8; slip++) {
            Edges.same("slip " + slip, x.write(slip, 1), false);
        }
        Edges.same("the eighth", x.write(8, 1), true);
    }

    static void promise6RoomNineIsRefused() {
        Edges.refused(Edges.ARGUMENT, x -> x.setRoom(9));
    }

    static void promise6RoomMinusOneIsRefused() {
        Edges.refused(Edges.ARGUMENT, x -> x.setRoom(-1));
    }

    static void promise6RoomsFarOffAreRefused() {
        Edges.refused(Edges.FAR_OFF, Edges.ARGUMENT, SlipLevels::setRoom);
    }

    static void promise6SameRoomIsToldToo() {
        SlipLevels x = Edges.put(Edges.fresh(), 1, 1, 2, 1, 3, 1);
        Edges.same("before", x.setRoom(4), 4);
        Edges.same("not bound", x.count(0), 3);
    }

    static void promise6OneMoreThanOnTheDeskIsNotBound() {
        for (int slips = 0; slips < 8; slips++) {
            SlipLevels x = deskOf(slips);
            Edges.same("before", x.setRoom(slips + 1), 8);
            Edges.same("desk", x.count(0), slips);
            Edges.same("moves", x.count(4), 0);
            Edges.same("room", x.count(1), slips + 1);
        }
    }

    static void promise6AsManyAsOnTheDeskAreBound() {
        for (int slips = 1; slips < 8; slips++) {
            SlipLevels x = deskOf(slips);
            Edges.same("before", x.setRoom(slips), 8);
            Edges.same("desk", x.count(0), 0);
            Edges.same("moves", x.count(4), slips);
            Edges.same("room", x.count(1), slips);
        }
    }

    static void promise6OneLessThanOnTheDeskAreBound() {
        for (int slips = 2; slips < 8; slips++) {
            SlipLevels x = deskOf(slips);
            Edges.same("before", x.setRoom(slips - 1), 8);
            Edges.same("all are bound", x.run(0, 0, 0), slips);
            Edges.same("desk", x.count(0), 0);
            Edges.same("room", x.count(1), slips - 1);
        }
    }

    private static SlipLevels deskOf(int slips) {
        SlipLevels x = Edges.fresh();
        x.setRoom(8);
        for (int slip = 0; slip < slips; slip++) {
            Edges.put(x, 9 * slip, slip - 1);
        }
        return x;
    }

    static void promise6TombsFillTheRoomToo() {
        SlipLevels x = Edges.put(Edges.fresh(), 1, -1, 2, -1);
        x.setRoom(2);
        Edges.same("bound", Edges.slips(x, 0, 0), List.of(-2, -3));
    }

    static void promise6BindingSettles() {
        SlipLevels x = Edges.brim();
        Edges.same("before", x.setRoom(3), 4);
        Edges.same("runs", Edges.runs(x), List.of(0, 0, 0, 1));
    }

    static void promise6RoomHoldsFromNowOn() {
        SlipLevels x = Edges.fresh();
        x.setRoom(2);
        Edges.same("first", x.write(1, 1), false);
        Edges.same("second", x.write(2, 1), true);
        Edges.same("third", x.write(3, 1), false);
        Edges.same("fourth", x.write(4, 1), true);
        Edges.same("room", x.setRoom(3), 2);
    }
}
