public final class Promise11HeadTest {
    public static void main(String[] args) {
        Due due = new Due();
        RollBench bench = new RollBench();
        due.is("head(5)", bench.head(5), 0);
        due.is("head(60)", bench.head(60), 5);
        due.is("head(61)", bench.head(61), RollBench.GREAT);
        due.is("head(MAX)", bench.head(Integer.MAX_VALUE), RollBench.GREAT);
        due.is("head(-1)", bench.head(-1), RollBench.NEGATIVE);
        due.is("head(MIN)", bench.head(Integer.MIN_VALUE), RollBench.NEGATIVE);
        due.is("count(HEAD)", bench.count(Benches.HEAD), 60);
        due.is("play from 60", bench.play(3), 0);
        due.is("head(0)", bench.head(0), 60);
        due.is("head(7)", bench.head(7), 0);
        Benches.playingIs(due, bench, 7, 0, 0, 0, 0, 0, 0);
        Benches.roll(bench, "........");
        due.is("play from 7", bench.play(9), 1);
        due.is("head(2)", bench.head(2), 8);
        due.is("play from 2", bench.play(9), 6);
        due.is("count(CLOCK)", bench.count(Benches.CLOCK), 7);
        due.end();
    }
}
