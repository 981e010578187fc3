public final class Promise01NewObjectTest {
    public static void main(String[] args) {
        Due due = new Due();
        RollBench bench = new RollBench();
        for (int what = -2; what < 20; what++) {
            due.is("count(" + what + ")", bench.count(what), 0);
        }
        for (int lane = 0; lane < Benches.LANES; lane++) {
            due.is("at(" + lane + ", 0, 0)", bench.at(lane, 0, 0), RollBench.NO_SHEET);
            due.is("lay(" + lane + ", 0, 0)", bench.lay(lane, 0, 0), RollBench.NO_SHEET);
            due.is("size(" + lane + ")", bench.size(lane), RollBench.OFF);
        }
        due.is("play(200)", bench.play(200), 0);
        due.is("head(0)", bench.head(0), 0);
        objectsShareNothing(due);
        due.end();
    }

    private static void objectsShareNothing(Due due) {
        RollBench used = Benches.with(Benches.SIGNS, 46, 1);
        used.rule(0, 1, 1);
        used.play(2);
        used.cell(0, 9);
        RollBench fresh = new RollBench();
        due.is("size(0)", fresh.size(0), RollBench.OFF);
        due.is("at(0, 0, 0)", fresh.at(0, 0, 0), RollBench.NO_SHEET);
        due.is("count(5)", fresh.count(5), 0);
        Benches.playingIs(due, fresh, 0, 0, 0, 0, 0, 0, 0);
    }
}
