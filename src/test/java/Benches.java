/** What the tests of several promises share: lane names, edges, and benches that are made ready. */
final class Benches {
    static final int SIGNS = 0;
    static final int TICKS = 1;
    static final int FORCE = 2;
    static final int PEDAL = 3;
    static final int PITCH = 4;
    static final int LANES = 5;

    static final int HEAD = 10;
    static final int CLOCK = 11;
    static final int SHIFT = 12;
    static final int MARK = 13;
    static final int NOTES = 14;
    static final int SOUND = 15;
    static final int BLANKS = 16;

    static final int[] NO_LANES = {-1, 5, 6, 255, -5, Integer.MIN_VALUE, Integer.MAX_VALUE};

    private Benches() {
    }

    static RollBench with(int lane, int... numbers) {
        RollBench bench = new RollBench();
        write(bench, lane, numbers);
        return bench;
    }

    static void write(RollBench bench, int lane, int... numbers) {
        bench.mount(lane, numbers.length);
        for (int i = 0; i < numbers.length; i++) {
            bench.put(lane, i, numbers[i]);
        }
    }

    static void roll(RollBench bench, String signs) {
        int[] numbers = new int[signs.length()];
        for (int i = 0; i < numbers.length; i++) {
            numbers[i] = signs.charAt(i);
        }
        write(bench, SIGNS, numbers);
    }

    static void cellsAre(Due due, RollBench bench, int lane, int... numbers) {
        due.is("size(" + lane + ")", bench.size(lane), numbers.length);
        for (int i = 0; i < numbers.length; i++) {
            due.is("cell(" + lane + ", " + i + ")", bench.cell(lane, i), numbers[i]);
        }
    }

    static void rowIs(Due due, RollBench bench, int lane, int row, int... numbers) {
        for (int column = 0; column < numbers.length; column++) {
            due.is("at(" + lane + ", " + row + ", " + column + ")", bench.at(lane, row, column), numbers[column]);
        }
        due.is("at(" + lane + ", " + row + ", " + numbers.length + ")",
            bench.at(lane, row, numbers.length), RollBench.NO_COLUMN);
    }

    /** The counts of OFF of lanes 0 .. 4, then those of OUT. */
    static void refusalsAre(Due due, RollBench bench, int... counts) {
        for (int what = 0; what < counts.length; what++) {
            due.is("count(" + what + ")", bench.count(what), counts[what]);
        }
    }

    /** HEAD, CLOCK, SHIFT, MARK, NOTES, SOUND, BLANKS. */
    static void playingIs(Due due, RollBench bench, int... counts) {
        for (int k = 0; k < counts.length; k++) {
            due.is("count(" + (HEAD + k) + ")", bench.count(HEAD + k), counts[k]);
        }
    }
}
