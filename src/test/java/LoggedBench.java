import java.util.Arrays;

/** Hands every call on and keeps how the latest one was written, for the message of a wrong answer. */
final class LoggedBench implements Bench {
    /** The document says nothing about an object after so many calls, so no test may ask for more. */
    private static final int MOST_CALLS = 512;

    private final Bench asked;
    private final Trial trial;
    private int calls;

    LoggedBench(Bench asked, Trial trial) {
        this.asked = asked;
        this.trial = trial;
    }

    private void log(String name, int... arguments) {
        calls++;
        if (calls > MOST_CALLS) {
            throw new IllegalStateException("the test itself is wrong: more than 512 calls of one object");
        }
        trial.called(name + Arrays.toString(arguments).replace('[', '(').replace(']', ')') + ", call " + calls);
    }

    @Override
    public int mount(int lane, int n) {
        log("mount", lane, n);
        return asked.mount(lane, n);
    }

    @Override
    public int strip(int lane) {
        log("strip", lane);
        return asked.strip(lane);
    }

    @Override
    public int size(int lane) {
        log("size", lane);
        return asked.size(lane);
    }

    @Override
    public int cell(int lane, int i) {
        log("cell", lane, i);
        return asked.cell(lane, i);
    }

    @Override
    public int put(int lane, int i, int v) {
        log("put", lane, i, v);
        return asked.put(lane, i, v);
    }

    @Override
    public int change(int lane, int way, int i, int v) {
        log("change", lane, way, i, v);
        return asked.change(lane, way, i, v);
    }

    @Override
    public int rule(int lane, int rows, int columns) {
        log("rule", lane, rows, columns);
        return asked.rule(lane, rows, columns);
    }

    @Override
    public int lay(int lane, int row, int from) {
        log("lay", lane, row, from);
        return asked.lay(lane, row, from);
    }

    @Override
    public int at(int lane, int row, int column) {
        log("at", lane, row, column);
        return asked.at(lane, row, column);
    }

    @Override
    public int head(int h) {
        log("head", h);
        return asked.head(h);
    }

    @Override
    public int play(int n) {
        log("play", n);
        return asked.play(n);
    }

    @Override
    public int count(int what) {
        log("count", what);
        return asked.count(what);
    }
}
