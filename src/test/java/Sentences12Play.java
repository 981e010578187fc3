final class Sentences12Play extends Sentences {
    private static final String STEPS = "At most n STEPS, 0 .. 200: how many were done (fewer when the roll has ended).";

    Sentences12Play() {
        super("Promise 12: play");
        noStep();
        oneStep();
        twoHundred();
        justAsManyAsThereAre();
        fewer();
        noneWhenEnded();
        negative();
        great();
    }

    private void noStep() {
        sentence(STEPS, "n is 0", t -> {
            Bench x = t.roll("...");
            t.due(x.play(0), 0);
            t.playing(x, 0, 0, 0, 0, 0, 0, 0);
            t.due(t.bench().play(0), 0);
        }, () -> new Model() {
            @Override
            public int play(int n) {
                return super.play(n == 0 ? 1 : n);
            }
        }, () -> new Model() {
            @Override
            public int play(int n) {
                return n == 0 ? NEGATIVE : super.play(n);
            }
        });
    }

    private void oneStep() {
        sentence(STEPS, "n is 1", t -> {
            Bench x = t.roll("...");
            t.due(x.play(1), 1);
            t.playing(x, 1, 1, 0, 0, 0, 0, 0);
            t.due(x.play(1), 1);
            t.playing(x, 2, 2, 0, 0, 0, 0, 0);
        }, () -> new Model() {
            @Override
            public int play(int n) {
                return super.play(n == 1 ? 2 : n);
            }
        });
    }

    private void twoHundred() {
        sentence(STEPS, "n is 200, and 199", t -> {
            Bench x = t.roll("r");
            t.write(x, TICKS, 1000);
            t.due(x.play(200), 200);
            t.cells(x, TICKS, 800);
            t.due(x.play(199), 199);
            t.cells(x, TICKS, 601);
        }, () -> new Model() {
            @Override
            public int play(int n) {
                return n == 200 ? GREAT : super.play(n);
            }
        }, () -> new Model() {
            @Override
            public int play(int n) {
                return super.play(n == 200 ? 199 : n);
            }
        });
    }

    private void justAsManyAsThereAre() {
        sentence(STEPS, "n is just how many steps there are, one fewer, one more", t -> {
            for (int n = 2; n <= 4; n++) {
                Bench x = t.roll("...");
                t.due(x.play(n), Math.min(3, n));
                t.playing(x, Math.min(3, n), Math.min(3, n), 0, 0, 0, 0, 0);
            }
        }, () -> new Model() {
            @Override
            public int play(int n) {
                int done = super.play(n);
                return done == 3 && n == 3 ? 2 : done;
            }
        }, () -> new Model() {
            @Override
            public int play(int n) {
                int done = super.play(n);
                return done == 3 && n == 4 ? 4 : done;
            }
        });
    }

    private void fewer() {
        sentence(STEPS, "fewer when the roll has ended: of 60 cells, of a loop that is used up", t -> {
            Bench x = t.bench();
            x.mount(SIGNS, 60);
            t.due(x.play(200), 60);
            Bench loop = t.roll(".r");
            t.write(loop, TICKS, 1, 98);
            t.due(loop.play(200), 198);
            t.playing(loop, 2, 99, 0, 0, 0, 0, 0);
        }, () -> new Model() {
            @Override
            public int play(int n) {
                int done = super.play(n);
                return done == 60 ? n : done;
            }
        }, () -> new Model() {
            @Override
            public int play(int n) {
                return super.play(Math.min(n, 197));
            }
        });
    }

    private void noneWhenEnded() {
        sentence(STEPS, "none when the roll had ended before", t -> {
            Bench x = t.roll(".");
            t.due(x.play(1), 1);
            t.due(x.play(1), 0);
            t.due(x.play(200), 0);
            t.playing(x, 1, 1, 0, 0, 0, 0, 0);
            t.due(t.bench().play(200), 0);
        }, () -> new Model() {
            @Override
            public int play(int n) {
                int done = super.play(n);
                return n == 200 && done == 0 ? OUT : done;
            }
        });
    }

    private void negative() {
        sentence("NEGATIVE;", "-1, and the least number", t -> {
            Bench x = t.roll("...");
            t.due(x.play(-1), NEGATIVE);
            t.due(x.play(MIN), NEGATIVE);
            t.playing(x, 0, 0, 0, 0, 0, 0, 0);
        }, () -> new Model() {
            @Override
            public int play(int n) {
                return n == -1 ? 0 : super.play(n);
            }
        }, () -> new Model() {
            @Override
            public int play(int n) {
                return n == MIN ? GREAT : super.play(n);
            }
        });
    }

    private void great() {
        sentence("GREAT.", "201, and the greatest number", t -> {
            Bench x = t.roll("...");
            t.due(x.play(201), GREAT);
            t.due(x.play(MAX), GREAT);
            t.playing(x, 0, 0, 0, 0, 0, 0, 0);
            t.due(x.play(200), 3);
            t.due(x.play(201), GREAT);
        }, () -> new Model() {
            @Override
            public int play(int n) {
                return super.play(n == 201 ? 200 : n);
            }
        }, () -> new Model() {
            @Override
            public int play(int n) {
                return n == MAX ? NEGATIVE : super.play(n);
            }
        });
    }
}
