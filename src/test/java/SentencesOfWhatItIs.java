final class SentencesOfWhatItIs extends Sentences {
    private static final String BENCH = "A bench for piano rolls: five lanes of cells lie on it or are off, are written,"
        + " changed and played; each lane has a sheet of its own, which is ruled and on which its cells are laid.";
    private static final String CALLS = "An object is used for at most 512 calls after it has been made;"
        + " what later calls answer is free.";

    SentencesOfWhatItIs() {
        super("What it is");
        fiveLanesAtOnce();
        sheetsOfTheirOwn();
        lastCallAnswers();
        lastCallChanges();
        everyCallPlays();
    }

    private void fiveLanesAtOnce() {
        sentence(BENCH, "all five lie on it with 60 cells each, and each has what was written and changed in it", t -> {
            Bench x = t.bench();
            for (int lane : LANES) {
                t.due(x.mount(lane, 60), 60);
            }
            for (int lane : LANES) {
                x.put(lane, 59, 2 * lane + 1);
                x.change(lane, 3, 0, 0);
            }
            t.cells(x, SIGNS, filled(60, 1, 1));
            t.cells(x, TICKS, filled(60, 1, 3));
            t.cells(x, FORCE, filled(60, 1, 5));
            t.cells(x, PEDAL, filled(60, 1, 1));
            t.cells(x, PITCH, filled(60, 1, 9));
        }, () -> oneLaneForTwo(FORCE, PEDAL), () -> oneLaneForTwo(SIGNS, PITCH));
    }

    private void sheetsOfTheirOwn() {
        sentence(BENCH, "all five are ruled, each in its own way, and each has its own lane's cells laid on it", t -> {
            Bench x = t.bench();
            for (int lane : LANES) {
                t.write(x, lane, 1, lane, 1);
                t.due(x.rule(lane, lane, 5 - lane), lane * (5 - lane));
            }
            t.due(x.lay(SIGNS, 0, 0), NO_ROW);
            for (int lane = 1; lane <= 4; lane++) {
                t.due(x.lay(lane, lane - 1, 1), Math.min(2, 5 - lane));
            }
            t.row(x, TICKS, 0, 1, 1, 0, 0);
            t.row(x, FORCE, 0, 0, 0, 0);
            t.row(x, FORCE, 1, 2, 1, 0);
            t.row(x, PEDAL, 2, 1, 1);
            t.row(x, PITCH, 3, 4);
        }, () -> new Model() {
            @Override
            public int rule(int lane, int rows, int columns) {
                int answer = super.rule(lane, rows, columns);
                if (answer >= 0 && lane == PITCH) super.rule(TICKS, rows, columns);
                return answer;
            }
        });
    }

    private void lastCallAnswers() {
        sentence(CALLS, "the 512th call is answered as the document says, after 511 refusals", t -> {
            for (int what : new int[] {SIGNS, PITCH}) {
                Bench off = t.bench();
                for (int call = 1; call <= 511; call++) {
                    off.size(what);
                }
                t.due(off.count(what), 511);
                Bench out = t.bench();
                out.mount(what, 60);
                for (int call = 2; call <= 511; call++) {
                    out.cell(what, 60);
                }
                t.due(out.count(5 + what), 510);
            }
        }, () -> endingAfter(511), () -> countingTo(509));
    }

    private void lastCallChanges() {
        sentence(CALLS, "the 511th call changes what the 512th answers", t -> {
            Bench x = t.bench();
            x.mount(FORCE, 60);
            for (int call = 2; call <= 510; call++) {
                t.due(x.change(FORCE, 0, 59, 16), Math.min(8000, 16 * (call - 1)));
            }
            t.due(x.put(FORCE, 59, -7), -7);
            t.due(x.cell(FORCE, 59), -7);
        }, () -> endingAfter(510), () -> endingAfter(511));
    }

    private void everyCallPlays() {
        sentence(CALLS, "as many steps as 512 calls can do", t -> {
            Bench x = t.bench();
            x.mount(SIGNS, 60);
            x.put(SIGNS, 1, 'r');
            x.mount(TICKS, 60);
            x.put(TICKS, 1, 32767);
            for (int call = 5; call <= 510; call++) {
                t.due(x.play(200), 200);
                if (call == 300) {
                    // Each call takes 100 from the repeat, which has no more than 32767.
                    x.put(TICKS, 1, 32767);
                }
            }
            t.due(x.count(BLANKS), 506 * 100);
        }, () -> endingAfter(511), () -> new Model() {
            @Override
            void step(int sign) {
                super.step(sign);
                blanks = (short) blanks;
            }
        });
    }

    private static int[] filled(int cells, int first, int last) {
        int[] numbers = new int[cells];
        numbers[0] = first;
        numbers[cells - 1] = last;
        return numbers;
    }

    private static Model oneLaneForTwo(int one, int other) {
        return new Model() {
            @Override
            String name(int lane) {
                return super.name(lane == other ? one : lane);
            }
        };
    }

    private static Model countingTo(int most) {
        return new Model() {
            @Override
            public int count(int what) {
                return Math.min(most, super.count(what));
            }
        };
    }

    /** A bench that answers 0 once it has been asked so often, and does nothing then. */
    private static Bench endingAfter(int calls) {
        return new Model() {
            private int asked;

            private boolean hasEnded() {
                asked++;
                return asked > calls;
            }

            @Override
            public int cell(int lane, int i) {
                return hasEnded() ? 0 : super.cell(lane, i);
            }

            @Override
            public int mount(int lane, int n) {
                return hasEnded() ? 0 : super.mount(lane, n);
            }

            @Override
            public int size(int lane) {
                return hasEnded() ? 0 : super.size(lane);
            }

            @Override
            public int put(int lane, int i, int v) {
                return hasEnded() ? 0 : super.put(lane, i, v);
            }

            @Override
            public int change(int lane, int way, int i, int v) {
                return hasEnded() ? 0 : super.change(lane, way, i, v);
            }

            @Override
            public int play(int n) {
                return hasEnded() ? 0 : super.play(n);
            }

            @Override
            public int count(int what) {
                return hasEnded() ? 0 : super.count(what);
            }
        };
    }
}
