public final class Promise05CellTest {
    private static final int[] NO_CELLS = {-1, 3, 4, 59, 60, 61, Integer.MIN_VALUE, Integer.MAX_VALUE};

    public static void main(String[] args) {
        Due due = new Due();
        for (int lane = 0; lane < Benches.LANES; lane++) {
            RollBench bench = new RollBench();
            due.is("cell when off", bench.cell(lane, 0), RollBench.OFF);
            due.is("cell -1 when off", bench.cell(lane, -1), RollBench.OFF);
            Benches.write(bench, lane, 1, 0, 1);
            Benches.cellsAre(due, bench, lane, 1, 0, 1);
            for (int i : NO_CELLS) {
                due.is("cell " + i, bench.cell(lane, i), RollBench.OUT);
            }
            due.is("count of OFF", bench.count(lane), 2);
            due.is("count of OUT", bench.count(5 + lane), NO_CELLS.length);
            bench.mount(lane, 0);
            due.is("cell 0 of none", bench.cell(lane, 0), RollBench.OUT);
        }
        RollBench bench = new RollBench();
        for (int lane : Benches.NO_LANES) {
            due.is("cell(" + lane + ", 0)", bench.cell(lane, 0), RollBench.NO_LANE);
            due.is("cell(" + lane + ", -1)", bench.cell(lane, -1), RollBench.NO_LANE);
        }
        Benches.refusalsAre(due, bench, 0, 0, 0, 0, 0, 0, 0, 0, 0, 0);
        due.end();
    }
}
