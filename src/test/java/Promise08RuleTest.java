public final class Promise08RuleTest {
    private static final int MIN = Integer.MIN_VALUE;
    private static final int MAX = Integer.MAX_VALUE;

    public static void main(String[] args) {
        Due due = new Due();
        for (int lane = 0; lane < Benches.LANES; lane++) {
            ordinary(due, lane);
            emptySheets(due, lane);
            ruledAnew(due, lane);
            refused(due, lane);
        }
        noLane(due);
        due.end();
    }

    private static void ordinary(Due due, int lane) {
        RollBench bench = new RollBench();
        due.is("rule(16, 16)", bench.rule(lane, 16, 16), 256);
        for (int place = 0; place < 256; place++) {
            due.is("at " + place, bench.at(lane, place / 16, place % 16), 0);
        }
        due.is("row 16", bench.at(lane, 16, 0), RollBench.NO_ROW);
        due.is("column 16", bench.at(lane, 0, 16), RollBench.NO_COLUMN);
        due.is("rule(3, 5)", bench.rule(lane, 3, 5), 15);
        due.is("last", bench.at(lane, 2, 4), 0);
        due.is("row 3", bench.at(lane, 3, 0), RollBench.NO_ROW);
        due.is("column 5", bench.at(lane, 2, 5), RollBench.NO_COLUMN);
        for (int other = 0; other < Benches.LANES; other++) {
            if (other != lane) {
                due.is("another's sheet", bench.at(other, 0, 0), RollBench.NO_SHEET);
            }
        }
        due.is("the lane stays off", bench.size(lane), RollBench.OFF);
    }

    private static void emptySheets(Due due, int lane) {
        RollBench bench = new RollBench();
        due.is("rule(0, 0)", bench.rule(lane, 0, 0), 0);
        due.is("at of no rows", bench.at(lane, 0, 0), RollBench.NO_ROW);
        due.is("rule(0, 16)", bench.rule(lane, 0, 16), 0);
        due.is("at of no rows", bench.at(lane, 0, 0), RollBench.NO_ROW);
        due.is("rule(16, 0)", bench.rule(lane, 16, 0), 0);
        due.is("at of no columns", bench.at(lane, 15, 0), RollBench.NO_COLUMN);
        due.is("at of no columns", bench.at(lane, 16, 0), RollBench.NO_ROW);
    }

    private static void ruledAnew(Due due, int lane) {
        RollBench bench = Benches.with(lane, 1, 1, 1, 1);
        bench.rule(lane, 2, 4);
        bench.lay(lane, 0, 0);
        bench.lay(lane, 1, 0);
        due.is("rule the same", bench.rule(lane, 2, 4), 8);
        Benches.rowIs(due, bench, lane, 0, 0, 0, 0, 0);
        Benches.rowIs(due, bench, lane, 1, 0, 0, 0, 0);
        bench.lay(lane, 0, 0);
        bench.lay(lane, 1, 0);
        bench.rule(lane, 1, 1);
        bench.rule(lane, 3, 4);
        for (int row = 0; row < 3; row++) {
            Benches.rowIs(due, bench, lane, row, 0, 0, 0, 0);
        }
        Benches.cellsAre(due, bench, lane, 1, 1, 1, 1);
    }

    private static void refused(Due due, int lane) {
        RollBench bench = Benches.with(lane, 1, 1);
        int[][] great = {{17, 1}, {1, 17}, {17, 17}, {17, -1}, {-1, 17}, {MAX, MAX}, {MIN, MAX}, {MAX, MIN}};
        int[][] negative = {{-1, 1}, {1, -1}, {-1, -1}, {-1, 16}, {16, -1}, {MIN, 0}, {0, MIN}, {MIN, MIN}};
        for (int[] pair : great) {
            due.is("rule(" + pair[0] + ", " + pair[1] + ")", bench.rule(lane, pair[0], pair[1]), RollBench.GREAT);
        }
        for (int[] pair : negative) {
            due.is("rule(" + pair[0] + ", " + pair[1] + ")", bench.rule(lane, pair[0], pair[1]), RollBench.NEGATIVE);
        }
        due.is("no sheet yet", bench.at(lane, 0, 0), RollBench.NO_SHEET);
        bench.rule(lane, 1, 2);
        bench.lay(lane, 0, 0);
        bench.rule(lane, 17, 2);
        bench.rule(lane, 2, -1);
        Benches.rowIs(due, bench, lane, 0, 1, 1);
        due.is("row 1", bench.at(lane, 1, 0), RollBench.NO_ROW);
    }

    private static void noLane(Due due) {
        RollBench bench = new RollBench();
        for (int lane : Benches.NO_LANES) {
            due.is("rule(" + lane + ", 1, 1)", bench.rule(lane, 1, 1), RollBench.NO_LANE);
            due.is("rule(" + lane + ", 17, 1)", bench.rule(lane, 17, 1), RollBench.NO_LANE);
            due.is("rule(" + lane + ", -1, 1)", bench.rule(lane, -1, 1), RollBench.NO_LANE);
        }
    }
}
