import java.math.BigInteger;

final class Sentences03Strip extends Sentences {
    private static final String STRIPS = "A lane is off from now on: how many cells it had.";

    Sentences03Strip() {
        super("Promise 3: strip");
        everyLength();
        offFromThenOn();
        otherLanesStay();
        noLane("NO_LANE;", Bench::strip);
        off("OFF.", Bench::strip);
    }

    private void everyLength() {
        sentence(STRIPS, "it had 0 cells, 60 cells, or any number between", t -> {
            for (int lane : LANES) {
                Bench x = t.bench();
                for (int n = 0; n <= 60; n++) {
                    x.mount(lane, n);
                    t.due(x.strip(lane), n);
                }
            }
        }, () -> new Model() {
            @Override
            public int strip(int lane) {
                int answer = super.strip(lane);
                return answer == 0 ? OFF : answer;
            }
        }, () -> new Model() {
            @Override
            public int strip(int lane) {
                return Math.min(59, super.strip(lane));
            }
        });
    }

    private void offFromThenOn() {
        sentence(STRIPS, "every call finds it off, also when it had 0 cells", t -> {
            for (int lane : LANES) {
                for (int n : new int[] {0, 1, 60}) {
                    Bench x = t.bench();
                    x.mount(lane, n);
                    x.rule(lane, 1, 1);
                    t.due(x.strip(lane), n);
                    t.due(x.size(lane), OFF);
                    t.due(x.cell(lane, 0), OFF);
                    t.due(x.put(lane, 0, 1), OFF);
                    t.due(x.change(lane, 3, 0, 1), OFF);
                    t.due(x.lay(lane, 0, 0), OFF);
                    t.due(x.strip(lane), OFF);
                    t.due(x.count(lane), 6);
                }
            }
        }, () -> new Model() {
            @Override
            public int strip(int lane) {
                int answer = super.strip(lane);
                if (answer > 0) cells.put(name(lane), zeros(0));
                return answer;
            }
        }, () -> new Model() {
            @Override
            public int strip(int lane) {
                int answer = super.strip(lane);
                if (answer == 0) cells.put(name(lane), zeros(0));
                return answer;
            }
        });
    }

    private void otherLanesStay() {
        sentence(STRIPS, "a lane, and no other", t -> {
            for (int lane : LANES) {
                Bench x = t.bench();
                for (int other : LANES) {
                    t.write(x, other, 1, 0, 1);
                }
                t.due(x.strip(lane), 3);
                for (int other : LANES) {
                    if (other != lane) {
                        t.cells(x, other, 1, 0, 1);
                    }
                }
            }
        }, () -> new Model() {
            @Override
            public int strip(int lane) {
                if (lane == PEDAL) cells.get("PITCH").set(2, BigInteger.ZERO);
                return super.strip(lane);
            }
        });
    }
}
