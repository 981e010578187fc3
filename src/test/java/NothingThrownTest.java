/**
 * No call throws, whatever it is given and whatever was called before: rule 7 of LANGUAGE.md. It binds the calls
 * after the 512th too, whose answers are free, so what is answered here is not looked at.
 */
public final class NothingThrownTest {
    private static final int[] EDGES = {
        Integer.MIN_VALUE, -1, 0, 1, 2, 3, 4, 5, 9, 10, 15, 16, 17, 59, 60, 61, 200, 201, Integer.MAX_VALUE};
    private static final int[] ROLL = {46, 110, 116, 124, 114, 119, 0};

    public static void main(String[] args) {
        Due due = new Due();
        RollBench lasting = new RollBench();
        for (int a : EDGES) {
            for (int b : EDGES) {
                for (int c : EDGES) {
                    asks(due, new RollBench(), a, b, c);
                    asks(due, lasting, a, b, c);
                }
            }
        }
        for (int lane = -1; lane <= 5; lane++) {
            for (int n = -1; n <= 61; n++) {
                asks(due, rolling(lane, n), lane, n % 17, n);
            }
        }
        due.end();
    }

    private static void asks(Due due, RollBench x, int a, int b, int c) {
        try {
            ask(x, a, b, c);
            x.mount(a, c);
            ask(x, a, b, c);
            x.rule(a, b, c);
            ask(x, a, b, c);
            x.strip(a);
            ask(x, a, b, c);
        } catch (RuntimeException thrown) {
            due.holds("calls with " + a + ", " + b + ", " + c + " throw nothing: " + thrown, false);
        }
    }

    private static void ask(RollBench x, int a, int b, int c) {
        x.size(a);
        x.cell(a, b);
        x.put(a, b, c);
        for (int way = -1; way <= 4; way++) {
            x.change(a, way, b, c);
        }
        x.change(a, b, c, a);
        x.lay(a, b, c);
        x.at(a, b, c);
        x.head(b);
        x.play(c);
        x.count(c);
    }

    /** A bench on which a roll stands behind a mark, and one lane has n cells. */
    private static RollBench rolling(int lane, int n) {
        RollBench x = new RollBench();
        x.mount(0, 60);
        for (int i = 0; i < 60; i++) {
            x.put(0, i, ROLL[i % ROLL.length]);
        }
        x.mount(1, 30);
        x.put(1, 4, 300);
        x.rule(lane, 16, 16);
        x.mount(lane, n);
        x.play(200);
        return x;
    }
}
