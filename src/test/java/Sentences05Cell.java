final class Sentences05Cell extends Sentences {
    Sentences05Cell() {
        super("Promise 5: cell");
        firstAndLast();
        noLane("NO_LANE;", (x, lane) -> x.cell(lane, 0));
        off("OFF;", (x, lane) -> x.cell(lane, 0));
        out();
        outOfNone();
        outOfFormerCells();
    }

    private void firstAndLast() {
        sentence("The number in cell i.", "the first and the last, of 1, of 3 and of 60 cells", t -> {
            for (int lane : LANES) {
                Bench x = t.bench(lane, 1);
                t.due(x.cell(lane, 0), 1);
                t.write(x, lane, 1, 0, 1);
                t.due(x.cell(lane, 0), 1);
                t.due(x.cell(lane, 1), 0);
                t.due(x.cell(lane, 2), 1);
                x.mount(lane, 60);
                x.put(lane, 0, 1);
                x.put(lane, 59, 1);
                t.due(x.cell(lane, 0), 1);
                t.due(x.cell(lane, 58), 0);
                t.due(x.cell(lane, 59), 1);
                t.due(x.count(5 + lane), 0);
            }
        }, () -> new Model() {
            @Override
            public int cell(int lane, int i) {
                return i == 59 ? OUT : super.cell(lane, i);
            }
        }, () -> new Model() {
            @Override
            public int cell(int lane, int i) {
                return super.cell(lane, i == 1 ? 0 : i);
            }
        });
    }

    private void out() {
        sentence("OUT.", "-1, one behind the last, 60, the least and the greatest number", t -> {
            for (int lane : LANES) {
                Bench x = t.bench(lane, 1, 1, 1);
                for (int i : new int[] {-1, 3, 4, 59, 60, 61, MIN, MAX}) {
                    t.due(x.cell(lane, i), OUT);
                }
                x.mount(lane, 60);
                t.due(x.cell(lane, 60), OUT);
                t.due(x.cell(lane, -1), OUT);
                t.due(x.count(5 + lane), 10);
                t.due(x.count(lane), 0);
            }
        }, () -> new Model() {
            @Override
            public int cell(int lane, int i) {
                return super.cell(lane, i == -1 ? 0 : i);
            }
        }, () -> new Model() {
            @Override
            public int cell(int lane, int i) {
                return super.cell(lane, i == 3 ? 2 : i);
            }
        }, () -> new Model() {
            @Override
            public int cell(int lane, int i) {
                return super.cell(lane, i == 60 ? 0 : i);
            }
        });
    }

    private void outOfNone() {
        sentence("OUT.", "cell 0 of 0 cells", t -> {
            for (int lane : LANES) {
                Bench x = t.bench();
                x.mount(lane, 0);
                t.due(x.cell(lane, 0), OUT);
                t.due(x.cell(lane, -1), OUT);
                t.due(x.count(5 + lane), 2);
            }
        }, () -> new Model() {
            @Override
            public int cell(int lane, int i) {
                boolean none = !noLane(lane) && cells.containsKey(name(lane)) && cells.get(name(lane)).isEmpty();
                return none && i == 0 ? 0 : super.cell(lane, i);
            }
        });
    }

    private void outOfFormerCells() {
        sentence("OUT.", "a cell that the lane had before it was mounted anew", t -> {
            for (int lane : LANES) {
                Bench x = t.bench(lane, 1, 1, 1);
                x.mount(lane, 1);
                t.due(x.cell(lane, 1), OUT);
                t.due(x.cell(lane, 2), OUT);
                t.due(x.cell(lane, 0), 0);
            }
        }, () -> new Model() {
            private int most;

            @Override
            public int mount(int lane, int n) {
                most = Math.max(most, n);
                return super.mount(lane, n);
            }

            @Override
            public int cell(int lane, int i) {
                int answer = super.cell(lane, i);
                return answer == OUT && i > 0 && i < most ? 1 : answer;
            }
        });
    }
}
