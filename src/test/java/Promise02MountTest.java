public final class Promise02MountTest {
    public static void main(String[] args) {
        Due due = new Due();
        for (int lane = 0; lane < Benches.LANES; lane++) {
            ordinary(due, lane);
            whateverItHad(due, lane);
            refused(due, lane);
        }
        noLane(due);
        due.end();
    }

    private static void ordinary(Due due, int lane) {
        RollBench bench = new RollBench();
        due.is("mount(60)", bench.mount(lane, 60), 60);
        due.is("size", bench.size(lane), 60);
        for (int i = 0; i < 60; i++) {
            due.is("cell " + i, bench.cell(lane, i), 0);
        }
        due.is("cell 60", bench.cell(lane, 60), RollBench.OUT);
        due.is("mount(0)", bench.mount(lane, 0), 0);
        due.is("size", bench.size(lane), 0);
        for (int other = 0; other < Benches.LANES; other++) {
            if (other != lane) {
                due.is("size of another", bench.size(other), RollBench.OFF);
            }
        }
    }

    private static void whateverItHad(Due due, int lane) {
        RollBench bench = Benches.with(lane, 1, 1, 1, 1);
        due.is("mount the same", bench.mount(lane, 4), 4);
        Benches.cellsAre(due, bench, lane, 0, 0, 0, 0);
        Benches.write(bench, lane, 1, 1, 1, 1);
        due.is("mount fewer", bench.mount(lane, 2), 2);
        Benches.cellsAre(due, bench, lane, 0, 0);
        due.is("mount more", bench.mount(lane, 5), 5);
        Benches.cellsAre(due, bench, lane, 0, 0, 0, 0, 0);
        Benches.write(bench, lane, 1, 1, 1);
        bench.rule(lane, 1, 2);
        bench.lay(lane, 0, 0);
        bench.strip(lane);
        due.is("mount after strip", bench.mount(lane, 3), 3);
        Benches.cellsAre(due, bench, lane, 0, 0, 0);
        Benches.rowIs(due, bench, lane, 0, 1, 1);
    }

    private static void refused(Due due, int lane) {
        RollBench bench = Benches.with(lane, 1, 0, 1);
        due.is("mount(61)", bench.mount(lane, 61), RollBench.GREAT);
        due.is("mount(MAX)", bench.mount(lane, Integer.MAX_VALUE), RollBench.GREAT);
        due.is("mount(-1)", bench.mount(lane, -1), RollBench.NEGATIVE);
        due.is("mount(MIN)", bench.mount(lane, Integer.MIN_VALUE), RollBench.NEGATIVE);
        Benches.cellsAre(due, bench, lane, 1, 0, 1);
        RollBench off = new RollBench();
        off.mount(lane, 61);
        off.mount(lane, -1);
        Benches.refusalsAre(due, off, 0, 0, 0, 0, 0, 0, 0, 0, 0, 0);
        due.is("size after refusals", off.size(lane), RollBench.OFF);
    }

    private static void noLane(Due due) {
        RollBench bench = new RollBench();
        for (int lane : Benches.NO_LANES) {
            due.is("mount(" + lane + ", 1)", bench.mount(lane, 1), RollBench.NO_LANE);
            due.is("mount(" + lane + ", 61)", bench.mount(lane, 61), RollBench.NO_LANE);
            due.is("mount(" + lane + ", -1)", bench.mount(lane, -1), RollBench.NO_LANE);
        }
    }
}
