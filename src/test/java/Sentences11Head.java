final class Sentences11Head extends Sentences {
    private static final String BECOMES = "HEAD becomes h: what it was.";

    Sentences11Head() {
        super("Promise 11: head");
        everyPlace();
        whatPlayingMadeIt();
        theRestStays();
        great();
        negative();
    }

    private void everyPlace() {
        sentence(BECOMES, "0, 60 and each between, with no roll at all", t -> {
            Bench x = t.bench();
            t.due(x.head(0), 0);
            for (int h = 1; h <= 60; h++) {
                t.due(x.head(h), h - 1);
                t.due(x.count(HEAD), h);
            }
            t.due(x.head(60), 60);
            t.due(x.head(0), 60);
            t.due(x.count(HEAD), 0);
        }, () -> new Model() {
            @Override
            public int head(int h) {
                return h == 60 ? GREAT : super.head(h);
            }
        }, () -> new Model() {
            @Override
            public int head(int h) {
                return h == 0 ? NEGATIVE : super.head(h);
            }
        }, () -> new Model() {
            @Override
            public int head(int h) {
                super.head(h);
                return h;
            }
        });
    }

    private void whatPlayingMadeIt() {
        sentence(BECOMES, "what it was when the roll has ended, and where it plays from then", t -> {
            Bench x = t.roll("....");
            t.due(x.play(200), 4);
            t.due(x.head(3), 4);
            t.due(x.play(200), 1);
            t.due(x.head(0), 4);
            t.due(x.play(200), 4);
            t.due(x.head(4), 4);
            t.due(x.play(200), 0);
            t.due(x.count(CLOCK), 9);
            x.mount(SIGNS, 60);
            x.head(0);
            t.due(x.play(200), 60);
            t.due(x.head(59), 60);
            t.due(x.play(200), 1);
        }, () -> new Model() {
            private int set;

            @Override
            public int head(int h) {
                int answer = super.head(h);
                if (answer < 0) return answer;
                int was = set;
                set = h;
                return was;
            }
        }, () -> new Model() {
            @Override
            public int head(int h) {
                int answer = super.head(h);
                boolean behind = cells.containsKey("SIGNS") && head >= cells.get("SIGNS").size();
                if (behind) head = 0;
                return answer;
            }
        });
    }

    private void theRestStays() {
        sentence(BECOMES, "HEAD, and nothing else", t -> {
            Bench x = t.roll("t|n ");
            t.write(x, PITCH, 5, 0, 1);
            t.due(x.play(200), 4);
            t.playing(x, 4, 1, 5, 1, 1, 14, 1);
            t.due(x.head(0), 4);
            t.playing(x, 0, 1, 5, 1, 1, 14, 1);
            t.due(x.head(60), 0);
            t.playing(x, 60, 1, 5, 1, 1, 14, 1);
        }, () -> new Model() {
            @Override
            public int head(int h) {
                mark = h == 0 ? 0 : mark;
                return super.head(h);
            }
        });
    }

    private void great() {
        sentence("GREAT: h is above 60;", "61, and the greatest number", t -> {
            Bench x = t.bench();
            x.head(7);
            t.due(x.head(61), GREAT);
            t.due(x.head(62), GREAT);
            t.due(x.head(MAX), GREAT);
            t.due(x.count(HEAD), 7);
            t.due(x.head(60), 7);
            t.due(x.head(61), GREAT);
            t.due(x.count(HEAD), 60);
        }, () -> new Model() {
            @Override
            public int head(int h) {
                return super.head(h == 61 ? 60 : h);
            }
        }, () -> new Model() {
            @Override
            public int head(int h) {
                return h == MAX ? NEGATIVE : super.head(h);
            }
        });
    }

    private void negative() {
        sentence("NEGATIVE.", "-1, and the least number", t -> {
            Bench x = t.bench();
            x.head(7);
            t.due(x.head(-1), NEGATIVE);
            t.due(x.head(MIN), NEGATIVE);
            t.due(x.count(HEAD), 7);
        }, () -> new Model() {
            @Override
            public int head(int h) {
                return super.head(h == -1 ? 0 : h);
            }
        }, () -> new Model() {
            @Override
            public int head(int h) {
                return h == MIN ? GREAT : super.head(h);
            }
        });
    }
}
