public final class Promise03StripTest {
    public static void main(String[] args) {
        Due due = new Due();
        for (int lane = 0; lane < Benches.LANES; lane++) {
            RollBench bench = Benches.with(lane, 1, 1, 1);
            bench.rule(lane, 2, 2);
            bench.lay(lane, 1, 0);
            due.is("strip", bench.strip(lane), 3);
            due.is("size when off", bench.size(lane), RollBench.OFF);
            due.is("cell when off", bench.cell(lane, 0), RollBench.OFF);
            due.is("strip again", bench.strip(lane), RollBench.OFF);
            due.is("count of OFF", bench.count(lane), 3);
            due.is("count of OUT", bench.count(5 + lane), 0);
            Benches.rowIs(due, bench, lane, 1, 1, 1);
            bench.mount(lane, 0);
            due.is("strip of no cells", bench.strip(lane), 0);
            due.is("strip then", bench.strip(lane), RollBench.OFF);
            bench.mount(lane, 60);
            due.is("strip of 60", bench.strip(lane), 60);
        }
        othersStay(due);
        for (int lane : Benches.NO_LANES) {
            due.is("strip(" + lane + ")", new RollBench().strip(lane), RollBench.NO_LANE);
        }
        due.end();
    }

    private static void othersStay(Due due) {
        RollBench bench = new RollBench();
        for (int lane = 0; lane < Benches.LANES; lane++) {
            bench.mount(lane, 10 + lane);
        }
        due.is("strip(2)", bench.strip(2), 12);
        due.is("size(1)", bench.size(1), 11);
        due.is("size(3)", bench.size(3), 13);
    }
}
