public final class Promise07ChangeTest {
    private static final int MIN = Integer.MIN_VALUE;
    private static final int MAX = Integer.MAX_VALUE;

    public static void main(String[] args) {
        Due due = new Due();
        // each row: what the cell has, the way, v, what it has then
        changes(due, Benches.SIGNS, new int[][] {
            {65535, 0, 1, 0}, {0, 0, -1, 65535}, {65535, 0, MAX, 65534}, {5, 0, MIN, 5},
            {0, 1, 1, 65535}, {7, 1, -7, 14}, {1, 1, MIN, 1}, {300, 2, 300, 24464}, {65535, 2, 65535, 1},
            {65535, 2, MAX, 1}, {3, 2, 0, 0}, {65535, 3, 77, 0}, {8, 3, MAX, 9}});
        changes(due, Benches.TICKS, new int[][] {
            {32767, 0, 1, -32768}, {-32768, 0, -1, 32767}, {-1, 0, MIN, -1}, {-32768, 1, 1, 32767},
            {32767, 1, -1, -32768}, {0, 1, MIN, 0}, {-32768, 2, -1, -32768}, {300, 2, 300, 24464},
            {32767, 2, MAX, -32767}, {32767, 3, 5, -32768}, {-1, 3, 0, 0}});
        changes(due, Benches.FORCE, new int[][] {
            {7999, 0, 1, 8000}, {8000, 0, 1, 8000}, {1, 0, MAX, 8000}, {-1, 0, MIN, -8000},
            {-8000, 0, -1, -8000}, {-8000, 0, 8000, 0}, {-2, 1, MAX, -8000}, {0, 1, MIN, 8000},
            {1, 1, MIN, 8000}, {-1, 1, MIN, 8000}, {5, 1, 9, -4}, {-1, 2, MIN, 8000}, {2, 2, MIN, -8000},
            {8000, 2, MAX, 8000}, {-8000, 2, MAX, -8000}, {4096, 2, 1048576, 8000}, {4, 2, 1073741824, 8000},
            {-4, 2, 3, -12}, {8000, 3, 0, 8000}, {7999, 3, -9, 8000}, {-8000, 3, 9, -7999}});
        changes(due, Benches.PITCH, new int[][] {
            {127, 0, 1, -128}, {-128, 0, -1, 127}, {0, 0, 256, 0}, {1, 0, MAX, 0}, {-128, 1, 1, 127},
            {0, 1, -128, -128}, {0, 1, MIN, 0}, {-128, 2, -1, -128}, {16, 2, 16, 0}, {127, 2, 127, 1},
            {127, 3, 4, -128}, {-1, 3, 0, 0}});
        changes(due, Benches.PEDAL, new int[][] {
            {0, 0, 0, 0}, {0, 0, 1, 1}, {1, 0, 0, 1}, {1, 0, 1, 1}, {0, 0, 2, 0}, {0, 0, -3, 1}, {1, 0, 2, 1},
            {0, 1, 0, 0}, {0, 1, 1, 0}, {1, 1, 0, 0}, {1, 1, 1, 1}, {1, 1, 2, 0}, {1, 1, -1, 1}, {1, 1, MIN, 0},
            {0, 2, 0, 0}, {0, 2, 1, 1}, {1, 2, 0, 1}, {1, 2, 1, 0}, {1, 2, 2, 1}, {0, 2, MAX, 1}, {1, 2, -5, 0},
            {0, 3, 0, 1}, {1, 3, 0, 0}, {0, 3, 1, 1}, {1, 3, 1, 0}, {1, 3, MAX, 0}});
        for (int lane = 0; lane < Benches.LANES; lane++) {
            refused(due, lane);
            oneCellAlone(due, lane);
        }
        noLane(due);
        due.end();
    }

    private static void changes(Due due, int lane, int[][] rows) {
        RollBench bench = new RollBench();
        bench.mount(lane, 60);
        for (int[] row : rows) {
            bench.put(lane, 59, row[0]);
            String call = row[0] + " in change(" + lane + ", " + row[1] + ", 59, " + row[2] + ")";
            due.is(call, bench.change(lane, row[1], 59, row[2]), row[3]);
            due.is("cell after " + call, bench.cell(lane, 59), row[3]);
        }
    }

    private static void refused(Due due, int lane) {
        RollBench bench = new RollBench();
        for (int way : new int[] {-1, 4, 5, MIN, MAX}) {
            due.is("way " + way + " when off", bench.change(lane, way, 0, 1), RollBench.NO_WAY);
        }
        for (int way = 0; way < 4; way++) {
            due.is("way " + way + " when off", bench.change(lane, way, -1, 1), RollBench.OFF);
        }
        Benches.write(bench, lane, 1, 0);
        due.is("way 4", bench.change(lane, 4, 0, 1), RollBench.NO_WAY);
        due.is("way -1 at no cell", bench.change(lane, -1, 9, 1), RollBench.NO_WAY);
        for (int way = 0; way < 4; way++) {
            for (int i : new int[] {-1, 2, 60, MIN, MAX}) {
                due.is("way " + way + " at " + i, bench.change(lane, way, i, 1), RollBench.OUT);
            }
        }
        Benches.cellsAre(due, bench, lane, 1, 0);
        due.is("count of OFF", bench.count(lane), 4);
        due.is("count of OUT", bench.count(5 + lane), 20);
    }

    private static void oneCellAlone(Due due, int lane) {
        RollBench bench = new RollBench();
        for (int other = 0; other < Benches.LANES; other++) {
            bench.mount(other, 3);
        }
        due.is("change", bench.change(lane, 3, 1, 0), 1);
        for (int other = 0; other < Benches.LANES; other++) {
            Benches.cellsAre(due, bench, other, 0, other == lane ? 1 : 0, 0);
        }
    }

    private static void noLane(Due due) {
        RollBench bench = new RollBench();
        for (int lane : Benches.NO_LANES) {
            due.is("change(" + lane + ", 0, 0, 1)", bench.change(lane, 0, 0, 1), RollBench.NO_LANE);
            due.is("change(" + lane + ", 4, 0, 1)", bench.change(lane, 4, 0, 1), RollBench.NO_LANE);
        }
        Benches.refusalsAre(due, bench, 0, 0, 0, 0, 0, 0, 0, 0, 0, 0);
    }
}
