public final class Promise13CountTest {
    public static void main(String[] args) {
        Due due = new Due();
        refusals(due);
        playing(due);
        others(due);
        due.end();
    }

    private static void refusals(Due due) {
        RollBench bench = new RollBench();
        for (int lane = 0; lane < Benches.LANES; lane++) {
            for (int k = 0; k <= lane; k++) {
                bench.size(lane);
            }
        }
        Benches.refusalsAre(due, bench, 1, 2, 3, 4, 5, 0, 0, 0, 0, 0);
        for (int lane = 0; lane < Benches.LANES; lane++) {
            bench.mount(lane, 1);
            for (int k = 0; k < 10 - lane; k++) {
                bench.cell(lane, 1);
            }
        }
        Benches.refusalsAre(due, bench, 1, 2, 3, 4, 5, 10, 9, 8, 7, 6);
        bench.strip(3);
        bench.rule(3, 1, 1);
        bench.strip(3);
        bench.lay(3, 0, 9);
        bench.put(3, 0, 0);
        bench.change(3, 0, 0, 0);
        bench.change(3, 4, 0, 0);
        bench.lay(3, 1, 0);
        bench.at(3, 1, 0);
        Benches.refusalsAre(due, bench, 1, 2, 3, 8, 5, 10, 9, 8, 7, 6);
        bench.mount(3, 2);
        bench.lay(3, 0, 3);
        bench.put(3, 2, 0);
        bench.change(3, 1, 2, 0);
        Benches.refusalsAre(due, bench, 1, 2, 3, 8, 5, 10, 9, 8, 10, 6);
    }

    private static void playing(Due due) {
        RollBench bench = new RollBench();
        Benches.roll(bench, ".t|n xyz");
        Benches.write(bench, Benches.TICKS, 11, 0, 0, 2);
        Benches.write(bench, Benches.PITCH, 0, 4, 0, 3);
        bench.play(200);
        Benches.playingIs(due, bench, 8, 13, 4, 2, 1, 22, 4);
    }

    private static void others(Due due) {
        RollBench bench = new RollBench();
        Benches.roll(bench, ".n");
        bench.play(2);
        bench.size(1);
        for (int what : new int[] {-1, -5, 17, 18, 100, Integer.MIN_VALUE, Integer.MAX_VALUE}) {
            due.is("count(" + what + ")", bench.count(what), 0);
        }
    }
}
