public final class Promise10AtTest {
    private static final int MIN = Integer.MIN_VALUE;
    private static final int MAX = Integer.MAX_VALUE;

    public static void main(String[] args) {
        Due due = new Due();
        for (int lane = 0; lane < Benches.LANES; lane++) {
            RollBench bench = new RollBench();
            due.is("no sheet", bench.at(lane, -1, -1), RollBench.NO_SHEET);
            bench.rule(lane, 2, 3);
            Benches.write(bench, lane, 0, 1, 1);
            bench.lay(lane, 1, 0);
            bench.strip(lane);
            Benches.rowIs(due, bench, lane, 0, 0, 0, 0);
            Benches.rowIs(due, bench, lane, 1, 0, 1, 1);
            for (int row : new int[] {-1, 2, 3, 16, MIN, MAX}) {
                due.is("row " + row, bench.at(lane, row, 0), RollBench.NO_ROW);
                due.is("row " + row + ", no column", bench.at(lane, row, -1), RollBench.NO_ROW);
            }
            for (int column : new int[] {-1, 3, 15, 16, MIN, MAX}) {
                due.is("column " + column, bench.at(lane, 1, column), RollBench.NO_COLUMN);
            }
            Benches.refusalsAre(due, bench, 0, 0, 0, 0, 0, 0, 0, 0, 0, 0);
        }
        for (int lane : Benches.NO_LANES) {
            due.is("at(" + lane + ", 0, 0)", new RollBench().at(lane, 0, 0), RollBench.NO_LANE);
        }
        due.end();
    }
}
