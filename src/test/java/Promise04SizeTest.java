public final class Promise04SizeTest {
    public static void main(String[] args) {
        Due due = new Due();
        for (int lane = 0; lane < Benches.LANES; lane++) {
            RollBench bench = new RollBench();
            due.is("size at first", bench.size(lane), RollBench.OFF);
            due.is("size again", bench.size(lane), RollBench.OFF);
            due.is("count of OFF", bench.count(lane), 2);
            for (int n = 0; n <= 60; n++) {
                bench.mount(lane, n);
                due.is("size", bench.size(lane), n);
            }
            bench.put(lane, 59, 1);
            bench.cell(lane, 60);
            due.is("size after calls", bench.size(lane), 60);
            due.is("count of OFF", bench.count(lane), 2);
        }
        RollBench bench = new RollBench();
        for (int lane : Benches.NO_LANES) {
            due.is("size(" + lane + ")", bench.size(lane), RollBench.NO_LANE);
        }
        Benches.refusalsAre(due, bench, 0, 0, 0, 0, 0, 0, 0, 0, 0, 0);
        due.end();
    }
}
