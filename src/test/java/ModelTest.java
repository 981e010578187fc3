import java.util.Random;

/** Runs of 512 calls, the same at each start, answered by the class as by the model. */
public final class ModelTest {
    private static final int RUNS = 4000;
    private static final int CALLS = 512;
    private static final int[] EDGES = {
        Integer.MIN_VALUE, Integer.MIN_VALUE + 1, -65537, -65536, -32769, -32768, -8001, -8000, -129, -128, -2, -1,
        0, 1, 2, 15, 16, 17, 59, 60, 61, 127, 128, 255, 256, 7999, 8000, 8001, 32767, 32768, 65535, 65536,
        Integer.MAX_VALUE - 1, Integer.MAX_VALUE};
    private static final int[] SIGNS = {46, 110, 110, 116, 124, 114, 114, 119, 32};

    private final Random random;
    private final RollBench bench = new RollBench();
    private final Model model = new Model();
    private int got;
    private int want;

    private ModelTest(long seed) {
        random = new Random(seed);
    }

    public static void main(String[] args) {
        Due due = new Due();
        for (int run = 0; run < RUNS; run++) {
            ModelTest test = new ModelTest(run);
            for (int k = 0; k < CALLS; k++) {
                String call = test.call();
                due.is("run " + run + ", call " + k + ": " + call, test.got, test.want);
                if (test.got != test.want) {
                    break;
                }
            }
        }
        due.end();
    }

    private String call() {
        int lane = lane();
        switch (random.nextInt(14)) {
            case 0: {
                int n = random.nextInt(4) == 0 ? edge() : random.nextInt(61);
                answered(bench.mount(lane, n), model.mount(lane, n));
                return "mount(" + lane + ", " + n + ")";
            }
            case 1: {
                int often = random.nextInt(3) == 0 ? lane : -1;
                answered(bench.strip(often), model.strip(often));
                return "strip(" + often + ")";
            }
            case 2:
                answered(bench.size(lane), model.size(lane));
                return "size(" + lane + ")";
            case 3: {
                int i = cell();
                answered(bench.cell(lane, i), model.cell(lane, i));
                return "cell(" + lane + ", " + i + ")";
            }
            case 4:
            case 5:
                return putSign();
            case 6: {
                int i = cell();
                int v = number();
                answered(bench.put(lane, i, v), model.put(lane, i, v));
                return "put(" + lane + ", " + i + ", " + v + ")";
            }
            case 7:
                return change(lane);
            case 8: {
                int rows = table();
                int columns = table();
                answered(bench.rule(lane, rows, columns), model.rule(lane, rows, columns));
                return "rule(" + lane + ", " + rows + ", " + columns + ")";
            }
            case 9: {
                int row = table();
                int from = cell();
                answered(bench.lay(lane, row, from), model.lay(lane, row, from));
                return "lay(" + lane + ", " + row + ", " + from + ")";
            }
            case 10: {
                int row = table();
                int column = table();
                answered(bench.at(lane, row, column), model.at(lane, row, column));
                return "at(" + lane + ", " + row + ", " + column + ")";
            }
            case 11: {
                int h = cell();
                answered(bench.head(h), model.head(h));
                return "head(" + h + ")";
            }
            case 12: {
                int n = random.nextInt(8) == 0 ? edge() : random.nextInt(201);
                answered(bench.play(n), model.play(n));
                return "play(" + n + ")";
            }
            default: {
                int what = random.nextInt(8) == 0 ? edge() : random.nextInt(17);
                answered(bench.count(what), model.count(what));
                return "count(" + what + ")";
            }
        }
    }

    private String putSign() {
        int i = cell();
        int v = SIGNS[random.nextInt(SIGNS.length)];
        answered(bench.put(0, i, v), model.put(0, i, v));
        return "put(0, " + i + ", " + v + ")";
    }

    private String change(int lane) {
        int way = random.nextInt(10) == 0 ? edge() : random.nextInt(4);
        int i = cell();
        int v = number();
        answered(bench.change(lane, way, i, v), model.change(lane, way, i, v));
        return "change(" + lane + ", " + way + ", " + i + ", " + v + ")";
    }

    private void answered(int ofBench, int ofModel) {
        got = ofBench;
        want = ofModel;
    }

    private int lane() {
        return random.nextInt(30) == 0 ? edge() : random.nextInt(5);
    }

    private int cell() {
        return random.nextInt(12) == 0 ? edge() : random.nextInt(random.nextBoolean() ? 6 : 60);
    }

    private int table() {
        return random.nextInt(16) == 0 ? edge() : random.nextInt(random.nextBoolean() ? 4 : 17);
    }

    private int number() {
        switch (random.nextInt(4)) {
            case 0:
                return edge();
            case 1:
                return random.nextInt();
            default:
                return random.nextInt(41) - 20;
        }
    }

    private int edge() {
        return EDGES[random.nextInt(EDGES.length)];
    }
}
