/** The class itself, asked as a Bench. */
final class RealBench implements Bench {
    private final RollBench asked = new RollBench();

    @Override
    public int mount(int lane, int n) {
        return asked.mount(lane, n);
    }

    @Override
    public int strip(int lane) {
        return asked.strip(lane);
    }

    @Override
    public int size(int lane) {
        return asked.size(lane);
    }

    @Override
    public int cell(int lane, int i) {
        return asked.cell(lane, i);
    }

    @Override
    public int put(int lane, int i, int v) {
        return asked.put(lane, i, v);
    }

    @Override
    public int change(int lane, int way, int i, int v) {
        return asked.change(lane, way, i, v);
    }

    @Override
    public int rule(int lane, int rows, int columns) {
        return asked.rule(lane, rows, columns);
    }

    @Override
    public int lay(int lane, int row, int from) {
        return asked.lay(lane, row, from);
    }

    @Override
    public int at(int lane, int row, int column) {
        return asked.at(lane, row, column);
    }

    @Override
    public int head(int h) {
        return asked.head(h);
    }

    @Override
    public int play(int n) {
        return asked.play(n);
    }

    @Override
    public int count(int what) {
        return asked.count(what);
    }
}
