import java.math.BigInteger;
import java.util.ArrayList;
import java.util.List;

final class Sentences02Mount extends Sentences {
    private static final String HAS = "A lane has n cells of 0 from now on, whatever it had: n.";

    Sentences02Mount() {
        super("Promise 2: mount");
        empty();
        full();
        everyLength();
        hadMore();
        hadFewer();
        hadAsMany();
        wasStripped();
        otherLanesStay();
        noLane("NO_LANE;", (x, lane) -> x.mount(lane, 2));
        great();
        negative();
    }

    private void empty() {
        sentence(HAS, "n is 0", t -> {
            for (int lane : LANES) {
                Bench x = t.bench();
                t.due(x.mount(lane, 0), 0);
                t.due(x.size(lane), 0);
                t.due(x.cell(lane, 0), OUT);
                t.write(x, lane, 1, 1);
                t.due(x.mount(lane, 0), 0);
                t.due(x.size(lane), 0);
                t.due(x.cell(lane, 0), OUT);
            }
        }, () -> new Model() {
            @Override
            public int mount(int lane, int n) {
                return n == 0 ? NEGATIVE : super.mount(lane, n);
            }
        }, () -> new Model() {
            @Override
            public int mount(int lane, int n) {
                if (n == 0 && cells.containsKey(name(lane))) return 0;
                return super.mount(lane, n);
            }
        });
    }

    private void full() {
        sentence(HAS, "n is 60", t -> {
            for (int lane : LANES) {
                Bench x = t.bench();
                t.due(x.mount(lane, 60), 60);
                t.due(x.size(lane), 60);
                for (int i = 0; i < 60; i++) {
                    t.due(x.cell(lane, i), 0);
                    t.due(x.put(lane, i, 1), 1);
                }
                t.due(x.cell(lane, 60), OUT);
                t.due(x.mount(lane, 60), 60);
                for (int i = 0; i < 60; i++) {
                    t.due(x.cell(lane, i), 0);
                }
            }
        }, () -> new Model() {
            @Override
            public int mount(int lane, int n) {
                return n == 60 ? GREAT : super.mount(lane, n);
            }
        }, () -> new Model() {
            @Override
            public int mount(int lane, int n) {
                boolean full = cells.containsKey(name(lane)) && cells.get(name(lane)).size() == 60;
                BigInteger last = full ? has(lane, 59) : BigInteger.ZERO;
                int answer = super.mount(lane, n);
                if (n == 60) cells.get(name(lane)).set(59, last);
                return answer;
            }
        });
    }

    private void everyLength() {
        sentence(HAS, "each n from 0 to 60", t -> {
            Bench x = t.bench();
            for (int n = 0; n <= 60; n++) {
                t.due(x.mount(FORCE, n), n);
                t.due(x.size(FORCE), n);
                t.due(x.cell(FORCE, n), OUT);
                t.due(x.cell(FORCE, n - 1), n == 0 ? OUT : 0);
            }
        }, () -> new Model() {
            @Override
            public int mount(int lane, int n) {
                int answer = super.mount(lane, n);
                if (answer == 32) cells.put(name(lane), zeros(31));
                return answer;
            }
        });
    }

    private void hadMore() {
        sentence(HAS, "it had more cells, and has more again", t -> {
            for (int lane : LANES) {
                Bench x = t.bench(lane, 1, 1, 1, 1, 1);
                t.due(x.mount(lane, 2), 2);
                t.cells(x, lane, 0, 0);
                t.due(x.cell(lane, 2), OUT);
                t.due(x.mount(lane, 5), 5);
                t.cells(x, lane, 0, 0, 0, 0, 0);
            }
        }, this::keepsWhatItHad, () -> new Model() {
            private final List<BigInteger> tail = new ArrayList<>();

            @Override
            public int mount(int lane, int n) {
                List<BigInteger> had = cells.getOrDefault(name(lane), zeros(0));
                if (n >= 0 && n < had.size()) tail.addAll(had.subList(n, had.size()));
                boolean more = n > had.size() && !tail.isEmpty();
                int answer = super.mount(lane, n);
                if (more) cells.get(name(lane)).set(had.size(), tail.get(0));
                return answer;
            }
        });
    }

    private void hadFewer() {
        sentence(HAS, "it had fewer cells, or none", t -> {
            for (int lane : LANES) {
                Bench x = t.bench(lane, 1, 1);
                t.due(x.mount(lane, 4), 4);
                t.cells(x, lane, 0, 0, 0, 0);
                x.mount(lane, 0);
                t.due(x.mount(lane, 1), 1);
                t.cells(x, lane, 0);
            }
        }, this::keepsWhatItHad, () -> new Model() {
            @Override
            public int mount(int lane, int n) {
                boolean hadNone = cells.containsKey(name(lane)) && cells.get(name(lane)).isEmpty();
                return hadNone ? GREAT : super.mount(lane, n);
            }
        });
    }

    private void hadAsMany() {
        sentence(HAS, "it had just as many cells", t -> {
            for (int lane : LANES) {
                Bench x = t.bench(lane, 1, 1, 1);
                t.due(x.mount(lane, 3), 3);
                t.cells(x, lane, 0, 0, 0);
            }
        }, () -> new Model() {
            @Override
            public int mount(int lane, int n) {
                boolean same = !noLane(lane) && cells.containsKey(name(lane)) && cells.get(name(lane)).size() == n;
                return same ? n : super.mount(lane, n);
            }
        });
    }

    private void wasStripped() {
        sentence(HAS, "it was off, with cells before that", t -> {
            for (int lane : LANES) {
                Bench x = t.bench(lane, 1, 1, 1);
                x.strip(lane);
                t.due(x.mount(lane, 3), 3);
                t.cells(x, lane, 0, 0, 0);
            }
        }, () -> new Model() {
            private List<BigInteger> stripped = new ArrayList<>();

            @Override
            public int strip(int lane) {
                stripped = cells.getOrDefault(name(lane), zeros(0));
                return super.strip(lane);
            }

            @Override
            public int mount(int lane, int n) {
                int answer = super.mount(lane, n);
                if (answer == stripped.size()) cells.put(name(lane), stripped);
                return answer;
            }
        });
    }

    private void otherLanesStay() {
        sentence(HAS, "a lane, and no other", t -> {
            for (int lane : LANES) {
                Bench x = t.bench();
                for (int other : LANES) {
                    if (other != lane) {
                        t.write(x, other, 1, 0, 1);
                    }
                }
                t.due(x.mount(lane, 2), 2);
                for (int other : LANES) {
                    if (other != lane) {
                        t.cells(x, other, 1, 0, 1);
                    }
                }
            }
        }, () -> new Model() {
            @Override
            public int mount(int lane, int n) {
                if (lane == FORCE && n == 2) super.mount(PEDAL, 3);
                return super.mount(lane, n);
            }
        });
    }

    private void great() {
        sentence("GREAT: n is above 60;", "61, and the greatest number", t -> {
            for (int lane : LANES) {
                Bench x = t.bench();
                t.due(x.mount(lane, 61), GREAT);
                t.due(x.size(lane), OFF);
                t.due(x.mount(lane, 60), 60);
                t.due(x.mount(lane, 61), GREAT);
                t.due(x.mount(lane, 62), GREAT);
                t.due(x.mount(lane, 256), GREAT);
                t.due(x.mount(lane, MAX), GREAT);
                t.due(x.size(lane), 60);
            }
        }, () -> new Model() {
            @Override
            public int mount(int lane, int n) {
                int answer = super.mount(lane, n);
                if (n != 61 || answer != GREAT) return answer;
                cells.put(name(lane), zeros(61));
                return 61;
            }
        }, () -> new Model() {
            @Override
            public int mount(int lane, int n) {
                return n == MAX ? super.mount(lane, 60) : super.mount(lane, n);
            }
        });
    }

    private void negative() {
        sentence("NEGATIVE.", "-1, and the least number", t -> {
            for (int lane : LANES) {
                Bench x = t.bench();
                t.due(x.mount(lane, -1), NEGATIVE);
                t.due(x.size(lane), OFF);
                t.write(x, lane, 1);
                t.due(x.mount(lane, -1), NEGATIVE);
                t.due(x.mount(lane, MIN), NEGATIVE);
                t.cells(x, lane, 1);
            }
        }, () -> new Model() {
            @Override
            public int mount(int lane, int n) {
                return n == -1 ? super.mount(lane, 0) : super.mount(lane, n);
            }
        }, () -> new Model() {
            @Override
            public int mount(int lane, int n) {
                return n == MIN ? GREAT : super.mount(lane, n);
            }
        });
    }

    /** A bench that leaves the numbers in the cells that a lane has before and after. */
    private Bench keepsWhatItHad() {
        return new Model() {
            @Override
            public int mount(int lane, int n) {
                List<BigInteger> had = cells.getOrDefault(name(lane), zeros(0));
                int answer = super.mount(lane, n);
                for (int i = 0; i < Math.min(had.size(), answer); i++) cells.get(name(lane)).set(i, had.get(i));
                return answer;
            }
        };
    }
}
