final class Sentences04Size extends Sentences {
    private static final String MANY = "How many cells a lane has.";

    Sentences04Size() {
        super("Promise 4: size");
        everyLength();
        eachLaneItsOwn();
        changesNothing();
        noLane("NO_LANE;", Bench::size);
        off("OFF.", Bench::size);
    }

    private void everyLength() {
        sentence(MANY, "0 cells, 60 cells, or any number between", t -> {
            for (int lane : LANES) {
                Bench x = t.bench();
                for (int n = 0; n <= 60; n++) {
                    x.mount(lane, n);
                    t.due(x.size(lane), n);
                }
            }
        }, () -> new Model() {
            @Override
            public int size(int lane) {
                int answer = super.size(lane);
                return answer == 0 ? OFF : answer;
            }
        }, () -> new Model() {
            @Override
            public int size(int lane) {
                return Math.min(59, super.size(lane));
            }
        });
    }

    private void eachLaneItsOwn() {
        sentence(MANY, "the first lane and the last, of several that differ", t -> {
            Bench x = t.bench();
            for (int lane : LANES) {
                x.mount(lane, 10 + lane);
            }
            for (int lane : LANES) {
                t.due(x.size(lane), 10 + lane);
            }
        }, () -> new Model() {
            @Override
            public int size(int lane) {
                return super.size(lane == PITCH ? PEDAL : lane);
            }
        });
    }

    private void changesNothing() {
        sentence(MANY, "asked, written, refused and played, it has as many as before", t -> {
            for (int lane : LANES) {
                Bench x = t.bench(lane, 1, 1, 1);
                t.due(x.size(lane), 3);
                t.due(x.size(lane), 3);
                x.put(lane, 3, 1);
                x.change(lane, 0, 2, 5);
                x.play(200);
                t.due(x.size(lane), 3);
                t.due(x.count(lane), 0);
            }
        }, () -> new Model() {
            @Override
            public int put(int lane, int i, int v) {
                int answer = super.put(lane, i, v);
                if (answer == OUT) cells.get(name(lane)).addAll(zeros(1));
                return answer;
            }
        });
    }
}
