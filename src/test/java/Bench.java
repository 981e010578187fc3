/** The calls of the document's face, so that one test can ask the class and a bench that is broken on purpose. */
interface Bench {
    int mount(int lane, int n);

    int strip(int lane);

    int size(int lane);

    int cell(int lane, int i);

    int put(int lane, int i, int v);

    int change(int lane, int way, int i, int v);

    int rule(int lane, int rows, int columns);

    int lay(int lane, int row, int from);

    int at(int lane, int row, int column);

    int head(int h);

    int play(int n);

    int count(int what);
}
