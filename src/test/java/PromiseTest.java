/** For each promise of the document: ordinary inputs, the edges it names, and wrong inputs. */
public final class PromiseTest {
    private interface Call {
        long answer();
    }

    private static final int LOW = Integer.MIN_VALUE;
    private static final int HIGH = Integer.MAX_VALUE;
    private static final Class<?> INDEX = IndexOutOfBoundsException.class;
    private static final Class<?> ARGUMENT = IllegalArgumentException.class;
    private static final Class<?> STATE = IllegalStateException.class;

    private static int wrong = 0;

    public static void main(String[] args) {
        newObject();
        write();
        strike();
        bind();
        merge();
        mergeTombs();
        mergeLastLevel();
        settling();
        setRoom();
        read();
        detours();
        next();
        sum();
        run();
        slip();
        desk();
        level();
        count();
        spares();
        advise();
        mean();
        digest();
        System.out.println(wrong == 0 ? "all promises hold" : wrong + " answers are wrong");
        if (wrong != 0) {
            System.exit(1);
        }
    }

    private static void same(String what, long got, long want) {
        if (got != want) {
            wrong++;
            System.out.println(what + ": got " + got + ", due " + want);
        }
    }

    private static void same(String what, boolean got, boolean want) {
        same(what, got ? 1 : 0, want ? 1 : 0);
    }

    private static void same(String what, double got, double want) {
        if (got != want) {
            wrong++;
            System.out.println(what + ": got " + got + ", due " + want);
        }
    }

    /** The call must throw this very class, and leave all that can be told as it was. */
    private static void fails(String what, SlipLevels x, Class<?> due, Call call) {
        long before = x.digest();
        try {
            long got = call.answer();
            wrong++;
            System.out.println(what + ": got " + got + ", due is " + due.getName());
        } catch (RuntimeException e) {
            if (e.getClass() != due) {
                wrong++;
                System.out.println(what + ": threw " + e + ", due is " + due.getName());
            }
        }
        same(what + " changes nothing", x.digest(), before);
    }

    /** Writes slips, given as numbers and words in turn, of which -1 is a tomb, and binds them. */
    private static void bound(SlipLevels x, int... slips) {
        int room = x.setRoom(8);
        for (int i = 0; i + 1 < slips.length; i += 2) {
            if (slips[i + 1] < 0) {
                x.strike(slips[i]);
            } else {
                x.write(slips[i], slips[i + 1]);
            }
        }
        x.bind();
        x.setRoom(room);
    }

    private static void levels(String what, SlipLevels x, int... runs) {
        for (int level = 0; level < runs.length; level++) {
            same(what + ", runs of level " + level, x.level(level, 0), runs[level]);
        }
    }

    private static void slips(String what, SlipLevels x, int level, int run, int... told) {
        same(what + ", size", x.run(level, run, 0), told.length);
        for (int place = 0; place < told.length; place++) {
            same(what + ", place " + place, x.slip(level, run, place), told[place]);
        }
    }

    private static void newObject() {
        SlipLevels x = new SlipLevels();
        int[] counts = {0, 4, 0, 0, 0, 0, 0};
        for (int what = 0; what < counts.length; what++) {
            same("1: count " + what, x.count(what), counts[what]);
        }
        levels("1", x, 0, 0, 0, 0);
        for (int number = 0; number < 64; number++) {
            same("1: read " + number, x.read(number), -1);
        }
        same("1: no detours", x.count(5), 0);
    }

    private static void write() {
        SlipLevels x = new SlipLevels();
        same("2: first", x.write(0, 99), false);
        same("2: second", x.write(63, 0), false);
        same("2: same number", x.write(0, 7), false);
        same("2: same number once more", x.write(0, 8), false);
        same("2: still two", x.count(0), 2);
        same("2: the later word", x.read(0), 8);
        same("2: word 0 stands", x.read(63), 0);
        same("2: third", x.write(5, 1), false);
        same("2: fourth binds", x.write(4, 2), true);
        same("2: the desk is empty", x.count(0), 0);
        slips("2: run", x, 0, 0, 8, 402, 501, 6300);
        x.strike(9);
        x.write(9, 3);
        same("2: a word for a tomb", x.desk(0), 903);
        fails("2: number -1", x, INDEX, () -> x.write(-1, 5) ? 1 : 0);
        fails("2: number 64", x, INDEX, () -> x.write(64, 5) ? 1 : 0);
        fails("2: number least int", x, INDEX, () -> x.write(LOW, 5) ? 1 : 0);
        fails("2: number greatest int", x, INDEX, () -> x.write(HIGH, 5) ? 1 : 0);
        fails("2: word -1", x, ARGUMENT, () -> x.write(5, -1) ? 1 : 0);
        fails("2: word -2", x, ARGUMENT, () -> x.write(5, -2) ? 1 : 0);
        fails("2: word 100", x, ARGUMENT, () -> x.write(5, 100) ? 1 : 0);
        fails("2: both wrong", x, INDEX, () -> x.write(64, 100) ? 1 : 0);
    }

    private static void strike() {
        SlipLevels x = new SlipLevels();
        same("3: nothing stands", x.strike(63), false);
        same("3: a tomb lies there", x.desk(0), -64);
        x.write(63, 5);
        same("3: of a word", x.strike(63), false);
        same("3: one slip", x.count(0), 1);
        same("3: a tomb again", x.desk(0), -64);
        same("3: twice", x.strike(63), false);
        same("3: still one slip", x.count(0), 1);
        same("3: number 0", x.strike(0), false);
        same("3: third", x.strike(1), false);
        same("3: fourth binds", x.strike(2), true);
        slips("3: run", x, 0, 0, -1, -2, -3, -64);
        fails("3: number -1", x, INDEX, () -> x.strike(-1) ? 1 : 0);
        fails("3: number 64", x, INDEX, () -> x.strike(64) ? 1 : 0);
        fails("3: number least int", x, INDEX, () -> x.strike(LOW) ? 1 : 0);
    }

    private static void bind() {
        SlipLevels x = new SlipLevels();
        long fresh = x.digest();
        same("4: empty desk", x.bind(), 0);
        same("4: nothing is done", x.digest(), fresh);
        x.write(1, 10);
        x.strike(2);
        same("4: two slips", x.bind(), 2);
        levels("4: a run", x, 1, 0, 0, 0);
        same("4: empty again", x.bind(), 0);
        x.write(1, 11);
        same("4: one slip", x.bind(), 1);
        slips("4: the latest is 0", x, 0, 0, 111);
        slips("4: the earlier is 1", x, 0, 1, 110, -3);
        x.write(5, 50);
        same("4: one bound, two merged", x.bind(), 3);
        levels("4: merged", x, 0, 1, 0, 0);
        slips("4: without the tomb", x, 1, 0, 111, 550);
        same("4: moves", x.count(4), 6);
        same("4: mergings", x.count(6), 1);
    }

    private static void merge() {
        SlipLevels x = new SlipLevels();
        bound(x, 1, 10, 2, 20, 3, 30);
        bound(x, 2, 21, 3, -1);
        same("5: moves", x.merge(0), 2);
        levels("5: it goes on", x, 0, 1, 0, 0);
        slips("5: later slips first", x, 1, 0, 110, 221);
        same("5: all moves", x.count(4), 7);
        same("5: mergings", x.count(6), 1);
        same("5: one run goes on", x.merge(1), 2);
        levels("5: level 2", x, 0, 0, 1, 0);
        bound(x, 9, 90);
        x.merge(0);
        x.merge(1);
        levels("5: two on level 2", x, 0, 0, 2, 0);
        slips("5: latest first", x, 2, 0, 990);
        slips("5: earlier behind", x, 2, 1, 110, 221);
        fails("5: level -1", x, INDEX, () -> x.merge(-1));
        fails("5: level 4", x, INDEX, () -> x.merge(4));
        fails("5: level least int", x, INDEX, () -> x.merge(LOW));
        fails("5: no runs on 0", x, STATE, () -> x.merge(0));
        fails("5: no runs on 1", x, STATE, () -> x.merge(1));
        fails("5: no runs on 3", x, STATE, () -> x.merge(3));
        x.write(7, 70);
        same("5: the desk stays", x.merge(2), 3);
        same("5: a slip on the desk", x.count(0), 1);
        levels("5: level 3", x, 0, 0, 0, 1);
    }

    private static void mergeTombs() {
        SlipLevels x = new SlipLevels();
        bound(x, 1, 10);
        x.merge(0);
        x.merge(1);
        bound(x, 1, -1, 4, -1);
        same("5: a tomb is kept over level 2", x.merge(0), 2);
        slips("5: kept", x, 1, 0, -2, -5);
        same("5: and over level 2 as the next", x.merge(1), 2);
        slips("5: kept on 2", x, 2, 0, -2, -5);
        same("5: none is behind level 2", x.merge(2), 0);
        levels("5: no run comes", x, 0, 0, 0, 0);
        same("5: it is a merging all the same", x.count(6), 5);
        same("5: nothing stands", x.count(3), 0);
        bound(x, 3, -1);
        same("5: only tombs", x.merge(0), 0);
        levels("5: none comes of tombs", x, 0, 0, 0, 0);
        bound(x, 3, 30);
        x.merge(0);
        x.merge(1);
        x.merge(2);
        bound(x, 3, -1);
        x.merge(0);
        slips("5: level 3 is behind", x, 1, 0, -4);
        x.merge(1);
        x.merge(2);
        slips("5: level 3 is the next", x, 3, 0, -4);
        same("5: a tomb hides", x.read(3), -1);
    }

    private static void mergeLastLevel() {
        SlipLevels x = new SlipLevels();
        for (int i = 0; i < 2; i++) {
            bound(x, 10 + i, 1, 20, i == 0 ? 5 : -1);
            x.merge(0);
            x.merge(1);
            x.merge(2);
        }
        levels("5: two on level 3", x, 0, 0, 0, 2);
        slips("5: with a tomb", x, 3, 0, 1101, -21);
        same("5: level 3 into itself", x.merge(3), 2);
        levels("5: its only run", x, 0, 0, 0, 1);
        slips("5: no tombs on 3", x, 3, 0, 1001, 1101);
        same("5: alone again", x.merge(3), 2);
        levels("5: still one", x, 0, 0, 0, 1);
        bound(x, 10, -1, 11, -1);
        x.merge(0);
        x.merge(1);
        x.merge(2);
        same("5: all struck out", x.merge(3), 0);
        levels("5: none left", x, 0, 0, 0, 0);
    }

    private static void settling() {
        SlipLevels x = new SlipLevels();
        x.setRoom(1);
        for (int i = 1; i <= 81; i++) {
            x.write(i % 64, i % 100);
            if (i == 26) {
                levels("4: after 26", x, 2, 2, 2, 0);
            }
            if (i == 27) {
                levels("4: after 27, one after another", x, 0, 0, 0, 1);
                same("4: moves of 27", x.count(4), 27 * 4);
                same("4: mergings of 27", x.count(6), 9 + 3 + 1);
            }
            if (i == 80) {
                levels("4: after 80", x, 2, 2, 2, 2);
            }
        }
        levels("4: after 81, level 3 as well", x, 0, 0, 0, 1);
        same("4: all numbers", x.run(3, 0, 0), 64);
        same("4: the later word", x.read(17), 81);
        same("4: mergings of 81", x.count(6), 27 + 9 + 3 + 1);
        same("4: moves of 81", x.count(4), 81 * 4 + 64);
        SlipLevels y = new SlipLevels();
        y.setRoom(1);
        for (int i = 0; i < 9 + 9 + 3; i++) {
            y.write(i, i);
        }
        levels("5: before", y, 0, 1, 2, 0);
        same("5: merging settles the next", y.merge(1), 3 + 21);
        levels("5: settled", y, 0, 0, 0, 1);
    }

    private static void setRoom() {
        SlipLevels x = new SlipLevels();
        same("6: at first", x.setRoom(8), 4);
        for (int i = 0; i < 7; i++) {
            same("6: room for 8", x.write(i, i), false);
        }
        same("6: more than there are", x.setRoom(8), 8);
        same("6: none bound", x.count(0), 7);
        same("6: as many", x.setRoom(7), 8);
        same("6: bound", x.count(0), 0);
        levels("6: a run", x, 1, 0, 0, 0);
        same("6: its room", x.count(1), 7);
        same("6: empty desk", x.setRoom(1), 7);
        levels("6: no run of nothing", x, 1, 0, 0, 0);
        same("6: room for 1", x.write(60, 1), true);
        x.setRoom(8);
        x.write(1, 1);
        x.write(2, 1);
        x.write(3, 1);
        same("6: fewer than there are", x.setRoom(2), 8);
        levels("6: settled", x, 0, 1, 0, 0);
        same("6: moves", x.count(4), 7 + 1 + 3 + 8);
        fails("6: room 0", x, ARGUMENT, () -> x.setRoom(0));
        fails("6: room 9", x, ARGUMENT, () -> x.setRoom(9));
        fails("6: room -1", x, ARGUMENT, () -> x.setRoom(-1));
        fails("6: greatest int", x, ARGUMENT, () -> x.setRoom(HIGH));
    }

    /** A desk and three runs: 2 and 10 hide one another through all of them. */
    private static SlipLevels layered() {
        SlipLevels x = new SlipLevels();
        bound(x, 2, 11, 10, 12, 18, 13, 40, 14);
        x.merge(0);
        bound(x, 2, 21, 10, -1, 26, 22);
        bound(x, 1, 31, 3, 32, 34, 33);
        x.write(2, 41);
        x.strike(40);
        return x;
    }

    private static void read() {
        SlipLevels x = layered();
        same("7: on the desk", x.read(2), 41);
        same("7: a tomb on the desk", x.read(40), -1);
        same("7: the desk is no detour", x.count(5), 0);
        same("7: latest run", x.read(34), 33);
        same("7: one detour", x.count(5), 1);
        same("7: a tomb in a run", x.read(10), -1);
        same("7: found behind an opened one", x.count(5), 3);
        same("7: deepest", x.read(18), 13);
        same("7: opened on the way", x.count(5), 6);
        same("7: nowhere", x.read(63), -1);
        same("7: all passed", x.count(5), 6);
        same("7: word 0 to 99", x.read(1), 31);
        fails("7: number -1", x, INDEX, () -> x.read(-1));
        fails("7: number 64", x, INDEX, () -> x.read(64));
        fails("7: number least int", x, INDEX, () -> x.read(LOW));
        fails("7: number greatest int", x, INDEX, () -> x.read(HIGH));
    }

    private static void detours() {
        SlipLevels x = layered();
        same("8: desk", x.detours(2), 0);
        same("8: tomb on the desk", x.detours(40), 0);
        same("8: latest run", x.detours(1), 1);
        same("8: a tomb is found", x.detours(10), 2);
        same("8: found in the third", x.detours(18), 3);
        same("8: hole open in the first alone", x.detours(25), 1);
        same("8: under the least", x.detours(0), 0);
        same("8: hole open in all", x.detours(34), 1);
        same("8: the greatest one of the first", x.detours(26), 2);
        same("8: over the end of the first", x.detours(35), 0);
        same("8: over all ends", x.detours(42), 0);
        same("8: none counted", x.count(5), 0);
        fails("8: number -1", x, INDEX, () -> x.detours(-1));
        fails("8: number 64", x, INDEX, () -> x.detours(64));
    }

    private static void next() {
        SlipLevels x = layered();
        same("9: from 0", x.next(0), 1);
        same("9: of this", x.next(1), 1);
        same("9: on the desk", x.next(2), 2);
        same("9: over a tomb in a run", x.next(4), 18);
        same("9: in a run", x.next(19), 26);
        same("9: at the last", x.next(34), 34);
        same("9: the desk's tomb hides", x.next(35), -1);
        same("9: at the end", x.next(63), -1);
        x.write(63, 0);
        same("9: word 0 stands", x.next(35), 63);
        same("9: at 63", x.next(63), 63);
        same("9: none counted", x.count(5), 0);
        fails("9: number -1", x, INDEX, () -> x.next(-1));
        fails("9: number 64", x, INDEX, () -> x.next(64));
        fails("9: greatest int", x, INDEX, () -> x.next(HIGH));
    }

    private static void sum() {
        SlipLevels x = layered();
        same("10: all", x.sum(0, 63), 31 + 41 + 32 + 13 + 22 + 33);
        same("10: one", x.sum(2, 2), 41);
        same("10: both ends", x.sum(2, 18), 41 + 32 + 13);
        same("10: none stands", x.sum(4, 17), 0);
        same("10: a tomb is nothing", x.sum(40, 40), 0);
        same("10: none counted", x.count(5), 0);
        fails("10: from -1", x, INDEX, () -> x.sum(-1, 5));
        fails("10: from 64", x, INDEX, () -> x.sum(64, 64));
        fails("10: to 64", x, INDEX, () -> x.sum(5, 64));
        fails("10: to -1, less too", x, INDEX, () -> x.sum(5, -1));
        fails("10: from 64, more too", x, INDEX, () -> x.sum(64, 0));
        fails("10: to less", x, ARGUMENT, () -> x.sum(5, 4));
        fails("10: ends turned", x, ARGUMENT, () -> x.sum(63, 0));
    }

    private static void facts(String what, SlipLevels x, int level, int run, int... due) {
        for (int fact = 0; fact < due.length; fact++) {
            same(what + ", fact " + fact, x.run(level, run, fact), due[fact]);
        }
    }

    private static void run() {
        SlipLevels x = layered();
        facts("11: latest", x, 0, 0, 3, 1, 34, 2 + 4 + 8, 0, 3);
        facts("11: behind", x, 0, 1, 3, 2, 26, 4, 1, 2);
        facts("11: deepest", x, 1, 0, 4, 2, 40, 1 + 4, 0, 1);
        x.strike(34);
        facts("11: the desk goes first", x, 0, 0, 3, 1, 34, 14, 0, 2);
        bound(x, 7, 1, 15, 2, 63, 3, 56, -1);
        facts("11: four runs of before are one", x, 1, 1, 4, 2, 40, 5, 0, 1);
        fails("11: level -1", x, INDEX, () -> x.run(-1, 0, 0));
        fails("11: level 4", x, INDEX, () -> x.run(4, 0, 0));
        fails("11: run -1", x, INDEX, () -> x.run(1, -1, 0));
        fails("11: run 2", x, INDEX, () -> x.run(1, 2, 0));
        fails("11: no run", x, INDEX, () -> x.run(2, 0, 0));
        fails("11: run greatest int", x, INDEX, () -> x.run(1, HIGH, 0));
        fails("11: what -1", x, INDEX, () -> x.run(1, 0, -1));
        fails("11: what 6", x, INDEX, () -> x.run(1, 0, 6));
        SlipLevels y = new SlipLevels();
        bound(y, 0, 1, 63, 2, 5, -1);
        facts("11: both ends, holes 0, 5 and 7", y, 0, 0, 3, 0, 63, 1 + 32 + 128, 1, 3);
        bound(y, 5, -1, 6, -1, 5, 50, 6, -1, 7, 70, 7, -1);
        facts("11: tombs and words in place of one another", y, 0, 0, 3, 5, 7, 32 + 64 + 128, 2, 3);
    }

    private static void slip() {
        SlipLevels x = layered();
        slips("12: latest", x, 0, 0, 131, 332, 3433);
        slips("12: behind", x, 0, 1, 221, -11, 2622);
        slips("12: deepest", x, 1, 0, 211, 1012, 1813, 4014);
        bound(x, 0, -1, 63, 99);
        slips("12: tomb of 0, and 6399", x, 1, 0, -1, 131, 241, 332, -11, 2622, 3433, -41, 6399);
        fails("12: level -1", x, INDEX, () -> x.slip(-1, 0, 0));
        fails("12: level 4", x, INDEX, () -> x.slip(4, 0, 0));
        fails("12: run -1", x, INDEX, () -> x.slip(1, -1, 0));
        fails("12: run 2", x, INDEX, () -> x.slip(1, 2, 0));
        fails("12: no run", x, INDEX, () -> x.slip(0, 0, 0));
        fails("12: place -1", x, INDEX, () -> x.slip(1, 1, -1));
        fails("12: place 4", x, INDEX, () -> x.slip(1, 1, 4));
        fails("12: place least int", x, INDEX, () -> x.slip(1, 1, LOW));
    }

    private static void desk() {
        SlipLevels x = new SlipLevels();
        fails("13: empty", x, INDEX, () -> x.desk(0));
        x.write(63, 99);
        x.write(0, 0);
        x.strike(7);
        same("13: by numbers", x.desk(0), 0);
        same("13: a tomb", x.desk(1), -8);
        same("13: the greatest", x.desk(2), 6399);
        fails("13: place -1", x, INDEX, () -> x.desk(-1));
        fails("13: place 3", x, INDEX, () -> x.desk(3));
        fails("13: greatest int", x, INDEX, () -> x.desk(HIGH));
        x.bind();
        fails("13: bound", x, INDEX, () -> x.desk(0));
    }

    private static void level() {
        SlipLevels x = layered();
        same("14: runs", x.level(0, 0), 2);
        same("14: slips", x.level(0, 1), 6);
        same("14: tombs", x.level(0, 2), 1);
        same("14: runs of 1", x.level(1, 0), 1);
        same("14: slips of 1", x.level(1, 1), 4);
        same("14: tombs of 1", x.level(1, 2), 0);
        same("14: runs of 3", x.level(3, 0), 0);
        same("14: slips of 3", x.level(3, 1), 0);
        bound(x, 9, -1, 11, 1);
        same("14: tombs of 9, 10 and 40", x.level(1, 2), 3);
        same("14: slips of both runs", x.level(1, 1), 9 + 4);
        x.merge(1);
        bound(x, 5, -1, 6, -1);
        bound(x, 7, 1, 5, -1);
        same("14: tombs of the latest one, too", x.level(0, 2), 3);
        fails("14: level -1", x, INDEX, () -> x.level(-1, 0));
        fails("14: level 4", x, INDEX, () -> x.level(4, 0));
        fails("14: what -1", x, INDEX, () -> x.level(0, -1));
        fails("14: what 3", x, INDEX, () -> x.level(0, 3));
    }

    private static void count() {
        SlipLevels x = layered();
        int[] due = {2, 4, 10, 6, 14, 0, 1};
        for (int what = 0; what < due.length; what++) {
            same("15: count " + what, x.count(what), due[what]);
        }
        x.read(18);
        x.setRoom(5);
        same("15: room", x.count(1), 5);
        same("15: detours", x.count(5), 3);
        bound(x, 0, 0, 63, 0);
        same("15: word 0 stands, of 0 and 63 too", x.count(3), 6 + 2);
        fails("15: what -1", x, INDEX, () -> x.count(-1));
        fails("15: what 7", x, INDEX, () -> x.count(7));
        fails("15: least int", x, INDEX, () -> x.count(LOW));
    }

    private static void spares() {
        SlipLevels x = layered();
        long before = x.digest();
        same("16: the tomb stays", x.spares(0), 0);
        same("16: nothing to spare", x.spares(1), 0);
        same("16: no runs", x.spares(2), -1);
        same("16: no runs on 3", x.spares(3), -1);
        same("16: nothing is changed", x.digest(), before);
        fails("16: level -1", x, INDEX, () -> x.spares(-1));
        fails("16: level 4", x, INDEX, () -> x.spares(4));
        x.merge(0);
        same("16: 2 and 10 are twice, 10 a tomb", x.spares(1), 3);
        SlipLevels y = new SlipLevels();
        y.setRoom(1);
        for (int i = 0; i < 9 + 9 + 3 + 3; i++) {
            y.write(i % 4, i);
        }
        levels("16: before", y, 0, 2, 2, 0);
        same("16: settling is counted", y.spares(1), y.count(2) - 4);
    }

    private static void advise() {
        SlipLevels x = new SlipLevels();
        same("17: no runs", x.advise(), -1);
        x.write(1, 1);
        same("17: a desk is no run", x.advise(), -1);
        x.bind();
        same("17: the only one", x.advise(), 0);
        x.merge(0);
        same("17: the only one behind", x.advise(), 1);
        bound(x, 17, 1);
        same("17: of several the least", x.advise(), 0);
        long before = x.digest();
        x.advise();
        same("17: nothing is changed", x.digest(), before);
        SlipLevels y = new SlipLevels();
        bound(y, 0, 1, 8, 1, 56, 1);
        y.merge(0);
        bound(y, 0, 1, 24, 1, 56, 1);
        y.merge(0);
        bound(y, 5, 1);
        levels("17: before", y, 1, 2, 0, 0);
        same("17: merging 1 saves the most", y.advise(), 1);
    }

    private static void mean() {
        SlipLevels x = new SlipLevels();
        same("18: none", x.mean(), 0.0);
        bound(x, 0, 1, 56, 1);
        same("18: 0, 8 to 56", x.mean(), 8 / 64.0);
        bound(x, 8, 1, 9, -1, 16, 1);
        same("18: 8, 9 and 16 more, found in the later one", x.mean(), 9 / 64.0);
        x.write(8, 2);
        x.strike(0);
        same("18: the desk is none", x.mean(), 7 / 64.0);
        same("18: none counted", x.count(5), 0);
    }

    private static long digestOf(int[]... rows) {
        long d = 1493;
        for (int[] row : rows) {
            for (int x : row) {
                d = d * 31 + x;
            }
        }
        return d;
    }

    private static void digest() {
        int[] words = new int[64];
        java.util.Arrays.fill(words, -1);
        int[] fresh = {0, 4, 0, 0, 0, 0, 0};
        int[] empty = {0, 0, 0, 0};
        same("19: fresh", new SlipLevels().digest(), digestOf(fresh, empty, words));
        SlipLevels x = layered();
        x.read(18);
        x.read(10);
        int[] counts = {2, 4, 10, 6, 14, 5, 1};
        int[] desk = {241, -41};
        int[] latest = {3, 1, 34, 14, 0, 3, 131, 332, 3433};
        int[] behind = {3, 2, 26, 4, 1, 2, 221, -11, 2622};
        int[] deepest = {4, 2, 40, 5, 0, 1, 211, 1012, 1813, 4014};
        words[1] = 31;
        words[2] = 41;
        words[3] = 32;
        words[18] = 13;
        words[26] = 22;
        words[34] = 33;
        long due = digestOf(counts, desk, new int[] {2}, latest, behind, new int[] {1}, deepest,
            new int[] {0, 0}, words);
        same("19: desk and runs", x.digest(), due);
        same("19: nothing is counted", x.digest(), due);
        SlipLevels y = new SlipLevels();
        y.write(63, 9);
        y.write(0, 5);
        java.util.Arrays.fill(words, -1);
        words[0] = 5;
        words[63] = 9;
        int[] two = {2, 4, 0, 2, 0, 0, 0};
        same("19: the ends", y.digest(), digestOf(two, new int[] {5, 6309}, empty, words));
    }
}
