import java.math.BigInteger;

final class Sentences06Put extends Sentences {
    private static final String STORES = "v is stored in cell i: what the cell has then.";

    Sentences06Put() {
        super("Promise 6: put");
        firstAndLast();
        whatItHasThen();
        whateverItHad();
        noLane("NO_LANE;", (x, lane) -> x.put(lane, 0, 1));
        off("OFF;", (x, lane) -> x.put(lane, 0, 1));
        out();
        outOfNone();
    }

    private void firstAndLast() {
        sentence(STORES, "the first cell, the last of 60, and no other", t -> {
            for (int lane : LANES) {
                Bench x = t.bench();
                for (int each : LANES) {
                    x.mount(each, 60);
                }
                t.due(x.put(lane, 0, 1), 1);
                t.due(x.put(lane, 59, 1), 1);
                for (int i = 0; i < 60; i++) {
                    t.due(x.cell(lane, i), i == 0 || i == 59 ? 1 : 0);
                }
                for (int other : LANES) {
                    if (other != lane) {
                        t.due(x.cell(other, 0), 0);
                        t.due(x.cell(other, 59), 0);
                    }
                }
            }
        }, () -> new Model() {
            @Override
            public int put(int lane, int i, int v) {
                return i == 59 ? OUT : super.put(lane, i, v);
            }
        }, () -> new Model() {
            @Override
            public int put(int lane, int i, int v) {
                int answer = super.put(lane, i, v);
                if (i == 0) super.put(lane, 1, v);
                return answer;
            }
        }, () -> new Model() {
            @Override
            public int put(int lane, int i, int v) {
                if (lane == FORCE) super.put(PEDAL, i, v);
                return super.put(lane, i, v);
            }
        });
    }

    private void whatItHasThen() {
        sentence(STORES, "the number as it is stored, not v", t -> {
            int[] ofMax = {65535, -1, 8000, 1, -1};
            int[] ofMin = {0, 0, -8000, 0, 0};
            int[] of40001 = {40001, -25535, 8000, 1, 65};
            for (int lane : LANES) {
                Bench x = t.bench();
                x.mount(lane, 3);
                t.due(x.put(lane, 0, MAX), ofMax[lane]);
                t.due(x.put(lane, 1, MIN), ofMin[lane]);
                t.due(x.put(lane, 2, 40001), of40001[lane]);
                t.cells(x, lane, ofMax[lane], ofMin[lane], of40001[lane]);
            }
        }, () -> new Model() {
            @Override
            public int put(int lane, int i, int v) {
                int answer = super.put(lane, i, v);
                return answer > NO_LANE ? v : answer;
            }
        }, () -> new Model() {
            @Override
            int store(int lane, int i, BigInteger v) {
                int answer = super.store(lane, i, v);
                cells.get(name(lane)).set(i, v);
                return answer;
            }
        });
    }

    private void whateverItHad() {
        sentence(STORES, "again, with 0, whatever the cell had", t -> {
            for (int lane : LANES) {
                Bench x = t.bench(lane, 1);
                t.due(x.put(lane, 0, 1), 1);
                t.due(x.put(lane, 0, 0), 0);
                t.cells(x, lane, 0);
            }
        }, () -> new Model() {
            @Override
            public int put(int lane, int i, int v) {
                return v == 0 ? super.cell(lane, i) : super.put(lane, i, v);
            }
        });
    }

    private void out() {
        sentence("OUT.", "-1, one behind the last, 60, the least and the greatest number", t -> {
            for (int lane : LANES) {
                Bench x = t.bench(lane, 0, 0, 0);
                for (int i : new int[] {-1, 3, 4, 59, 60, MIN, MAX}) {
                    t.due(x.put(lane, i, 1), OUT);
                }
                t.cells(x, lane, 0, 0, 0);
                x.mount(lane, 60);
                t.due(x.put(lane, 60, 1), OUT);
                t.due(x.put(lane, -1, 1), OUT);
                t.due(x.count(5 + lane), 9);
                t.due(x.count(lane), 0);
            }
        }, () -> new Model() {
            @Override
            public int put(int lane, int i, int v) {
                return super.put(lane, i == -1 ? 0 : i, v);
            }
        }, () -> new Model() {
            @Override
            public int put(int lane, int i, int v) {
                return super.put(lane, i == 3 ? 2 : i, v);
            }
        });
    }

    private void outOfNone() {
        sentence("OUT.", "cell 0 of 0 cells, also after there were some", t -> {
            for (int lane : LANES) {
                Bench x = t.bench();
                x.mount(lane, 0);
                t.due(x.put(lane, 0, 1), OUT);
                t.write(x, lane, 1);
                x.mount(lane, 0);
                t.due(x.put(lane, 0, 1), OUT);
                t.due(x.size(lane), 0);
                t.due(x.count(5 + lane), 2);
            }
        }, () -> new Model() {
            @Override
            public int put(int lane, int i, int v) {
                boolean none = !noLane(lane) && cells.containsKey(name(lane)) && cells.get(name(lane)).isEmpty();
                return none && i == 0 ? v : super.put(lane, i, v);
            }
        });
    }
}
