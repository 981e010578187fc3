import java.util.ArrayList;
import java.util.List;
import java.util.function.Supplier;

/** One go of a sentence's test: it makes the benches that are asked, and keeps each answer that is not due. */
final class Trial {
    private static final int HEAD = 10;

    private final Supplier<Bench> maker;
    private final List<String> wrong = new ArrayList<>();
    private String latest = "no call";

    private Trial(Supplier<Bench> maker) {
        this.maker = maker;
    }

    /** What went wrong when the benches came from this maker; nothing, if the sentence holds in them. */
    static List<String> wrongIn(Sentence sentence, Supplier<Bench> maker) {
        Trial trial = new Trial(maker);
        try {
            sentence.check().on(trial);
        } catch (RuntimeException thrown) {
            trial.wrong.add(trial.latest + " threw " + thrown);
        }
        return trial.wrong;
    }

    void called(String call) {
        latest = call;
    }

    Bench bench() {
        return new LoggedBench(maker.get(), this);
    }

    /** A bench on which the lane has these numbers. */
    Bench bench(int lane, int... numbers) {
        Bench x = bench();
        write(x, lane, numbers);
        return x;
    }

    /** A bench on which SIGNS has these signs. */
    Bench roll(String signs) {
        return bench(0, signs.chars().toArray());
    }

    void write(Bench x, int lane, int... numbers) {
        x.mount(lane, numbers.length);
        for (int i = 0; i < numbers.length; i++) {
            x.put(lane, i, numbers[i]);
        }
    }

    void due(long answered, long due) {
        if (answered != due) {
            wrong.add(latest + ": answered " + answered + ", due is " + due);
        }
    }

    void cells(Bench x, int lane, int... numbers) {
        due(x.size(lane), numbers.length);
        for (int i = 0; i < numbers.length; i++) {
            due(x.cell(lane, i), numbers[i]);
        }
    }

    /** The row has these numbers and no more. */
    void row(Bench x, int lane, int row, int... numbers) {
        for (int column = 0; column < numbers.length; column++) {
            due(x.at(lane, row, column), numbers[column]);
        }
        due(x.at(lane, row, numbers.length), Sentences.NO_COLUMN);
    }

    /** The counts of OFF of lanes 0 .. 4, then those of OUT. */
    void refusals(Bench x, int... counts) {
        for (int what = 0; what < counts.length; what++) {
            due(x.count(what), counts[what]);
        }
    }

    /** HEAD, CLOCK, SHIFT, MARK, NOTES, SOUND, BLANKS. */
    void playing(Bench x, int... counts) {
        for (int k = 0; k < counts.length; k++) {
            due(x.count(HEAD + k), counts[k]);
        }
    }
}
