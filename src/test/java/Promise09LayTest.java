public final class Promise09LayTest {
    private static final int MIN = Integer.MIN_VALUE;
    private static final int MAX = Integer.MAX_VALUE;

    public static void main(String[] args) {
        Due due = new Due();
        ordinary(due);
        wide(due);
        numbersOfEachLane(due);
        for (int lane = 0; lane < Benches.LANES; lane++) {
            refused(due, lane);
            emptySheetsAndLanes(due, lane);
        }
        noLane(due);
        due.end();
    }

    private static void ordinary(Due due) {
        RollBench bench = Benches.with(Benches.SIGNS, 11, 12, 13, 14, 15);
        bench.rule(0, 3, 3);
        due.is("as far as columns", bench.lay(0, 0, 0), 3);
        Benches.rowIs(due, bench, 0, 0, 11, 12, 13);
        Benches.rowIs(due, bench, 0, 1, 0, 0, 0);
        due.is("just to the end", bench.lay(0, 2, 2), 3);
        Benches.rowIs(due, bench, 0, 2, 13, 14, 15);
        due.is("as far as cells", bench.lay(0, 0, 3), 2);
        Benches.rowIs(due, bench, 0, 0, 14, 15, 13);
        due.is("the last cell", bench.lay(0, 2, 4), 1);
        Benches.rowIs(due, bench, 0, 2, 15, 14, 15);
        due.is("at the end none", bench.lay(0, 2, 5), 0);
        Benches.rowIs(due, bench, 0, 2, 15, 14, 15);
        due.is("behind the end", bench.lay(0, 2, 6), RollBench.OUT);
        Benches.rowIs(due, bench, 0, 1, 0, 0, 0);
        Benches.cellsAre(due, bench, 0, 11, 12, 13, 14, 15);
        bench.put(0, 0, 99);
        bench.strip(0);
        Benches.rowIs(due, bench, 0, 0, 14, 15, 13);
    }

    private static void wide(Due due) {
        RollBench bench = new RollBench();
        bench.mount(Benches.TICKS, 60);
        for (int i = 0; i < 60; i++) {
            bench.put(Benches.TICKS, i, 100 + i);
        }
        bench.rule(Benches.TICKS, 16, 16);
        for (int row = 0; row < 16; row++) {
            due.is("lay row " + row, bench.lay(Benches.TICKS, row, 4 * row), row < 12 ? 16 : 60 - 4 * row);
        }
        for (int place = 0; place < 256; place++) {
            int row = place / 16;
            int i = 4 * row + place % 16;
            due.is("at place " + place, bench.at(Benches.TICKS, row, place % 16), i < 60 ? 100 + i : 0);
        }
        due.is("row 15 at 60", bench.lay(Benches.TICKS, 15, 60), 0);
        due.is("row 15 at 61", bench.lay(Benches.TICKS, 15, 61), RollBench.OUT);
    }

    private static void numbersOfEachLane(Due due) {
        RollBench bench = new RollBench();
        int[][] numbers = {{65535, 256}, {-32768, 32767}, {-8000, 8000}, {1, 0}, {-128, 127}};
        for (int lane = 0; lane < Benches.LANES; lane++) {
            Benches.write(bench, lane, numbers[lane]);
            bench.rule(lane, 2, 2);
            due.is("lay", bench.lay(lane, 1, 0), 2);
        }
        for (int lane = 0; lane < Benches.LANES; lane++) {
            Benches.rowIs(due, bench, lane, 0, 0, 0);
            Benches.rowIs(due, bench, lane, 1, numbers[lane]);
        }
    }

    private static void refused(Due due, int lane) {
        RollBench bench = new RollBench();
        due.is("no sheet, off", bench.lay(lane, 0, 0), RollBench.NO_SHEET);
        bench.mount(lane, 2);
        due.is("no sheet, no cell", bench.lay(lane, -1, -1), RollBench.NO_SHEET);
        bench.strip(lane);
        bench.rule(lane, 2, 2);
        for (int row : new int[] {-1, 2, 16, MIN, MAX}) {
            due.is("row " + row + " when off", bench.lay(lane, row, -1), RollBench.NO_ROW);
        }
        due.is("off", bench.lay(lane, 0, 0), RollBench.OFF);
        due.is("off and below 0", bench.lay(lane, 1, -1), RollBench.OFF);
        Benches.write(bench, lane, 1, 1);
        for (int from : new int[] {-1, 3, 60, MIN, MAX}) {
            due.is("from " + from, bench.lay(lane, 1, from), RollBench.OUT);
        }
        due.is("no row, out", bench.lay(lane, 2, 3), RollBench.NO_ROW);
        Benches.rowIs(due, bench, lane, 0, 0, 0);
        Benches.rowIs(due, bench, lane, 1, 0, 0);
        due.is("count of OFF", bench.count(lane), 2);
        due.is("count of OUT", bench.count(5 + lane), 5);
    }

    private static void emptySheetsAndLanes(Due due, int lane) {
        RollBench bench = Benches.with(lane, 1, 1);
        bench.rule(lane, 0, 16);
        due.is("no rows", bench.lay(lane, 0, 0), RollBench.NO_ROW);
        bench.rule(lane, 16, 0);
        due.is("no columns", bench.lay(lane, 15, 0), 0);
        due.is("no columns, at the end", bench.lay(lane, 15, 2), 0);
        due.is("no columns, out", bench.lay(lane, 15, 3), RollBench.OUT);
        bench.rule(lane, 2, 2);
        bench.mount(lane, 0);
        due.is("no cells", bench.lay(lane, 0, 0), 0);
        due.is("no cells, out", bench.lay(lane, 0, 1), RollBench.OUT);
    }

    private static void noLane(Due due) {
        RollBench bench = new RollBench();
        for (int lane : Benches.NO_LANES) {
            due.is("lay(" + lane + ", 0, 0)", bench.lay(lane, 0, 0), RollBench.NO_LANE);
        }
    }
}
