public final class Promise12PlayTest {
    public static void main(String[] args) {
        Due due = new Due();
        limits(due);
        ends(due);
        rests(due);
        notes(due);
        notesElse(due);
        shifts(due);
        repeats(due);
        repeatsAtTheMark(due);
        wanes(due);
        eachSignDoesItsOwnAlone(due);
        blanks(due);
        soundGoesRound(due);
        noRefusals(due);
        fullRoll(due);
        due.end();
    }

    private static void limits(Due due) {
        RollBench bench = new RollBench();
        Benches.roll(bench, "...");
        due.is("play(-1)", bench.play(-1), RollBench.NEGATIVE);
        due.is("play(MIN)", bench.play(Integer.MIN_VALUE), RollBench.NEGATIVE);
        due.is("play(201)", bench.play(201), RollBench.GREAT);
        due.is("play(MAX)", bench.play(Integer.MAX_VALUE), RollBench.GREAT);
        due.is("play(0)", bench.play(0), 0);
        Benches.playingIs(due, bench, 0, 0, 0, 0, 0, 0, 0);
        due.is("play(1)", bench.play(1), 1);
        due.is("play(200)", bench.play(200), 2);
        RollBench endless = new RollBench();
        Benches.roll(endless, "r");
        Benches.write(endless, Benches.TICKS, 500);
        due.is("play(200) of many", endless.play(200), 200);
        Benches.cellsAre(due, endless, Benches.TICKS, 300);
    }

    private static void ends(Due due) {
        RollBench bench = new RollBench();
        due.is("SIGNS off", bench.play(5), 0);
        bench.mount(Benches.SIGNS, 0);
        due.is("no cells", bench.play(5), 0);
        Benches.roll(bench, "..");
        due.is("two", bench.play(5), 2);
        due.is("none left", bench.play(5), 0);
        bench.mount(Benches.SIGNS, 5);
        due.is("three more", bench.play(5), 3);
        bench.head(1);
        bench.strip(Benches.SIGNS);
        due.is("off again", bench.play(5), 0);
        Benches.playingIs(due, bench, 1, 2, 0, 0, 0, 0, 3);
    }

    private static void rests(Due due) {
        RollBench bench = new RollBench();
        Benches.roll(bench, "....");
        Benches.write(bench, Benches.TICKS, 7, -3, 0);
        due.is("play", bench.play(4), 4);
        Benches.playingIs(due, bench, 4, 5, 0, 0, 0, 0, 0);
    }

    private static void notes(Due due) {
        RollBench bench = new RollBench();
        Benches.roll(bench, "nnn");
        Benches.write(bench, Benches.TICKS, 3, -4, 5);
        Benches.write(bench, Benches.PEDAL, 0, 1, 1);
        Benches.write(bench, Benches.PITCH, 10, 20, -7);
        Benches.write(bench, Benches.FORCE, 100, -50, 0);
        due.is("first", bench.play(1), 1);
        Benches.playingIs(due, bench, 1, 3, 0, 0, 1, 130, 0);
        due.is("second", bench.play(1), 1);
        Benches.playingIs(due, bench, 2, -5, 0, 0, 2, 130 - 160 - 50, 0);
        due.is("third", bench.play(1), 1);
        Benches.playingIs(due, bench, 3, 5, 0, 0, 3, -80 - 70, 0);
        Benches.cellsAre(due, bench, Benches.TICKS, 3, -4, 5);
    }

    private static void notesElse(Due due) {
        RollBench bench = new RollBench();
        Benches.roll(bench, "nn");
        bench.play(1);
        Benches.playingIs(due, bench, 1, 1, 0, 0, 1, 8, 0);
        for (int lane = 1; lane < Benches.LANES; lane++) {
            bench.mount(lane, 1);
        }
        bench.play(1);
        Benches.playingIs(due, bench, 2, 2, 0, 0, 2, 16, 0);
        Benches.write(bench, Benches.PEDAL, 1, 1);
        Benches.write(bench, Benches.PITCH, 6, 6);
        bench.head(0);
        bench.strip(Benches.TICKS);
        bench.strip(Benches.FORCE);
        bench.play(1);
        Benches.playingIs(due, bench, 1, 4, 0, 0, 3, 16 + 12 + 8, 0);
    }

    private static void shifts(Due due) {
        RollBench bench = new RollBench();
        Benches.roll(bench, "tntn");
        Benches.write(bench, Benches.PITCH, -5, 20);
        Benches.write(bench, Benches.TICKS, 9, 3);
        due.is("play", bench.play(1), 1);
        Benches.playingIs(due, bench, 1, 0, -5, 0, 0, 0, 0);
        bench.play(1);
        Benches.playingIs(due, bench, 2, 3, -5, 0, 1, 45 + 8, 0);
        bench.play(1);
        Benches.playingIs(due, bench, 3, 3, 0, 0, 1, 53, 0);
        bench.head(0);
        bench.play(1);
        bench.head(3);
        bench.play(1);
        Benches.playingIs(due, bench, 4, 4, -5, 0, 2, 53 - 5 + 8, 0);
    }

    private static void repeats(Due due) {
        RollBench bench = new RollBench();
        Benches.roll(bench, ".|.r.");
        Benches.write(bench, Benches.TICKS, 1, 0, 10, 2, 100);
        due.is("to the repeat", bench.play(3), 3);
        Benches.playingIs(due, bench, 3, 11, 0, 1, 0, 0, 0);
        due.is("the repeat", bench.play(1), 1);
        Benches.playingIs(due, bench, 1, 11, 0, 1, 0, 0, 0);
        due.is("cell", bench.cell(Benches.TICKS, 3), 1);
        due.is("all the rest", bench.play(200), 7);
        Benches.playingIs(due, bench, 5, 131, 0, 1, 0, 0, 0);
        Benches.cellsAre(due, bench, Benches.TICKS, 1, 0, 10, 0, 100);
        Benches.write(bench, Benches.TICKS, 0, 0, 0, -1, 0);
        bench.head(3);
        due.is("below 0", bench.play(1), 1);
        Benches.playingIs(due, bench, 4, 131, 0, 1, 0, 0, 0);
        Benches.cellsAre(due, bench, Benches.TICKS, 0, 0, 0, -1, 0);
        bench.mount(Benches.TICKS, 3);
        bench.head(3);
        bench.play(1);
        due.is("no cell in TICKS", bench.count(Benches.HEAD), 4);
        bench.strip(Benches.TICKS);
        bench.head(3);
        bench.play(1);
        due.is("TICKS off", bench.count(Benches.HEAD), 4);
    }

    private static void repeatsAtTheMark(Due due) {
        RollBench bench = new RollBench();
        Benches.roll(bench, "r.");
        Benches.write(bench, Benches.TICKS, 2, 5);
        due.is("at the mark", bench.play(2), 2);
        Benches.playingIs(due, bench, 0, 0, 0, 0, 0, 0, 0);
        Benches.cellsAre(due, bench, Benches.TICKS, 0, 5);
        due.is("used up at the mark", bench.play(1), 1);
        Benches.playingIs(due, bench, 1, 0, 0, 0, 0, 0, 0);
        RollBench forward = new RollBench();
        Benches.roll(forward, "r..|");
        Benches.write(forward, Benches.TICKS, 1);
        forward.head(3);
        forward.play(1);
        forward.head(0);
        due.is("to a mark ahead", forward.play(1), 1);
        Benches.playingIs(due, forward, 3, 0, 0, 3, 0, 0, 0);
    }

    private static void wanes(Due due) {
        RollBench bench = new RollBench();
        Benches.roll(bench, "wwww");
        Benches.write(bench, Benches.FORCE, 2, 0, -4);
        Benches.write(bench, Benches.TICKS, 7, 7, 7, 7);
        due.is("play", bench.play(200), 4);
        Benches.cellsAre(due, bench, Benches.FORCE, 1, 0, -4);
        Benches.cellsAre(due, bench, Benches.TICKS, 7, 7, 7, 7);
        Benches.playingIs(due, bench, 4, 0, 0, 0, 0, 0, 0);
        bench.head(0);
        bench.play(1);
        bench.head(0);
        bench.play(1);
        Benches.cellsAre(due, bench, Benches.FORCE, 0, 0, -4);
        bench.strip(Benches.FORCE);
        bench.head(0);
        due.is("FORCE off", bench.play(1), 1);
        due.is("count(HEAD)", bench.count(Benches.HEAD), 1);
    }

    private static void eachSignDoesItsOwnAlone(Due due) {
        RollBench bench = new RollBench();
        Benches.roll(bench, ".nt|wr ");
        Benches.write(bench, Benches.TICKS, 5, 5, 5, 5, 5, 0, 5);
        for (int lane = 2; lane < Benches.LANES; lane++) {
            Benches.write(bench, lane, 1, 1, 1, 1, 1, 1, 1);
        }
        due.is("play", bench.play(200), 7);
        Benches.playingIs(due, bench, 7, 15, 1, 3, 1, 11, 1);
        Benches.cellsAre(due, bench, Benches.SIGNS, '.', 'n', 't', '|', 'w', 'r', ' ');
        Benches.cellsAre(due, bench, Benches.TICKS, 5, 5, 5, 5, 5, 0, 5);
        Benches.cellsAre(due, bench, Benches.FORCE, 1, 1, 1, 1, 0, 1, 1);
        Benches.cellsAre(due, bench, Benches.PEDAL, 1, 1, 1, 1, 1, 1, 1);
        Benches.cellsAre(due, bench, Benches.PITCH, 1, 1, 1, 1, 1, 1, 1);
    }

    private static void blanks(Due due) {
        int blanks = 0;
        for (int first = 0; first < 256; first += 32) {
            RollBench bench = new RollBench();
            bench.mount(Benches.SIGNS, 32);
            int expected = 0;
            for (int i = 0; i < 32; i++) {
                bench.put(Benches.SIGNS, i, first + i);
                expected += ".nt|rw".indexOf(first + i) < 0 ? 1 : 0;
            }
            due.is("play", bench.play(200), 32);
            due.is("count(BLANKS)", bench.count(Benches.BLANKS), expected);
            blanks += expected;
        }
        due.is("signs that are blank", blanks, 250);
        RollBench bench = Benches.with(Benches.SIGNS, 65535, 256 + 46, 0, 65536 + 46);
        due.is("play", bench.play(9), 4);
        Benches.playingIs(due, bench, 4, 1, 0, 0, 0, 0, 3);
    }

    private static void soundGoesRound(Due due) {
        RollBench bench = new RollBench();
        Benches.roll(bench, "tnr");
        Benches.write(bench, Benches.TICKS, 0, 32767, 32767);
        Benches.write(bench, Benches.PEDAL, 0, 1, 0);
        Benches.write(bench, Benches.PITCH, 127, 127, 0);
        Benches.write(bench, Benches.FORCE, 0, 8000, 0);
        due.is("play(200)", bench.play(200), 200);
        due.is("play(199)", bench.play(199), 199);
        int sound = 0;
        for (int k = 0; k < 133; k++) {
            sound += 65534 * 254 + 8000;
        }
        due.holds("the sound has gone round", 133L * (65534 * 254 + 8000) != sound);
        Benches.playingIs(due, bench, 0, 133 * 65534, 127, 0, 133, sound, 0);
        due.is("what the repeat has left", bench.cell(Benches.TICKS, 2), 32767 - 133);
    }

    private static void noRefusals(Due due) {
        RollBench bench = new RollBench();
        Benches.roll(bench, ".nt|rw ");
        bench.play(200);
        for (int lane = 1; lane < Benches.LANES; lane++) {
            bench.mount(lane, 0);
        }
        bench.head(0);
        bench.play(200);
        bench.strip(Benches.SIGNS);
        bench.play(200);
        Benches.refusalsAre(due, bench, 0, 0, 0, 0, 0, 0, 0, 0, 0, 0);
    }

    private static void fullRoll(Due due) {
        RollBench bench = new RollBench();
        bench.mount(Benches.SIGNS, 60);
        for (int i = 0; i < 60; i++) {
            bench.put(Benches.SIGNS, i, '|');
        }
        due.is("play(200)", bench.play(200), 60);
        Benches.playingIs(due, bench, 60, 0, 0, 59, 0, 0, 0);
        due.is("play(200) at 60", bench.play(200), 0);
    }
}
