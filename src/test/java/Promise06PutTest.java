public final class Promise06PutTest {
    private static final int MIN = Integer.MIN_VALUE;
    private static final int MAX = Integer.MAX_VALUE;

    public static void main(String[] args) {
        Due due = new Due();
        stores(due, Benches.SIGNS, new int[][] {
            {0, 0}, {1, 1}, {65535, 65535}, {65536, 0}, {65537, 1}, {-1, 65535}, {32768, 32768},
            {-32768, 32768}, {-65536, 0}, {-65537, 65535}, {MAX, 65535}, {MIN, 0}});
        stores(due, Benches.TICKS, new int[][] {
            {0, 0}, {32767, 32767}, {32768, -32768}, {-32768, -32768}, {-32769, 32767}, {65535, -1},
            {65536, 0}, {-1, -1}, {MAX, -1}, {MIN, 0}});
        stores(due, Benches.FORCE, new int[][] {
            {0, 0}, {7999, 7999}, {8000, 8000}, {8001, 8000}, {-7999, -7999}, {-8000, -8000},
            {-8001, -8000}, {MAX, 8000}, {MIN, -8000}, {-3, -3}});
        stores(due, Benches.PEDAL, new int[][] {
            {0, 0}, {1, 1}, {2, 0}, {3, 1}, {-1, 1}, {-2, 0}, {-3, 1}, {MAX, 1}, {MIN, 0}});
        stores(due, Benches.PITCH, new int[][] {
            {0, 0}, {127, 127}, {128, -128}, {-128, -128}, {-129, 127}, {255, -1}, {256, 0}, {-1, -1},
            {MAX, -1}, {MIN, 0}});
        for (int lane = 0; lane < Benches.LANES; lane++) {
            oneCellAlone(due, lane);
            refused(due, lane);
        }
        RollBench bench = new RollBench();
        for (int lane : Benches.NO_LANES) {
            due.is("put(" + lane + ", 0, 1)", bench.put(lane, 0, 1), RollBench.NO_LANE);
        }
        due.end();
    }

    private static void stores(Due due, int lane, int[][] pairs) {
        RollBench bench = new RollBench();
        bench.mount(lane, 2);
        for (int[] pair : pairs) {
            String call = "put(" + lane + ", 1, " + pair[0] + ")";
            due.is(call, bench.put(lane, 1, pair[0]), pair[1]);
            due.is("cell after " + call, bench.cell(lane, 1), pair[1]);
        }
    }

    private static void oneCellAlone(Due due, int lane) {
        RollBench bench = new RollBench();
        for (int other = 0; other < Benches.LANES; other++) {
            bench.mount(other, 60);
        }
        due.is("put first", bench.put(lane, 0, 1), 1);
        due.is("put last", bench.put(lane, 59, 1), 1);
        for (int i = 0; i < 60; i++) {
            due.is("cell " + i, bench.cell(lane, i), i == 0 || i == 59 ? 1 : 0);
        }
        for (int other = 0; other < Benches.LANES; other++) {
            if (other != lane) {
                due.is("first of another", bench.cell(other, 0), 0);
                due.is("last of another", bench.cell(other, 59), 0);
            }
        }
    }

    private static void refused(Due due, int lane) {
        RollBench bench = new RollBench();
        due.is("put when off", bench.put(lane, 0, 1), RollBench.OFF);
        due.is("put -1 when off", bench.put(lane, -1, 1), RollBench.OFF);
        bench.mount(lane, 2);
        for (int i : new int[] {-1, 2, 60, MIN, MAX}) {
            due.is("put at " + i, bench.put(lane, i, 1), RollBench.OUT);
        }
        Benches.cellsAre(due, bench, lane, 0, 0);
        due.is("count of OFF", bench.count(lane), 2);
        due.is("count of OUT", bench.count(5 + lane), 5);
    }
}
