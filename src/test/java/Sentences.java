import java.util.ArrayList;
import java.util.Arrays;
import java.util.List;
import java.util.function.Supplier;

/** The sentences of one part of the document, and the names that their tests use. */
abstract class Sentences {
    // Written out here and not taken from the class: a test must not take over its faults.
    static final int NO_LANE = -1000001;
    static final int NO_WAY = -1000002;
    static final int GREAT = -1000003;
    static final int NEGATIVE = -1000004;
    static final int OFF = -1000005;
    static final int OUT = -1000006;
    static final int NO_SHEET = -1000007;
    static final int NO_ROW = -1000008;
    static final int NO_COLUMN = -1000009;

    static final int SIGNS = 0;
    static final int TICKS = 1;
    static final int FORCE = 2;
    static final int PEDAL = 3;
    static final int PITCH = 4;
    static final int[] LANES = {SIGNS, TICKS, FORCE, PEDAL, PITCH};
    static final int[] NO_LANES = {-1, 5, Integer.MIN_VALUE, Integer.MAX_VALUE};

    static final int HEAD = 10;
    static final int CLOCK = 11;
    static final int SHIFT = 12;
    static final int MARK = 13;
    static final int NOTES = 14;
    static final int SOUND = 15;
    static final int BLANKS = 16;

    static final int MIN = Integer.MIN_VALUE;
    static final int MAX = Integer.MAX_VALUE;

    private final String where;
    private final List<Sentence> list = new ArrayList<>();

    Sentences(String where) {
        this.where = where;
    }

    @SafeVarargs
    @SuppressWarnings("varargs")
    final void sentence(String words, String edge, Sentence.Check check, Supplier<Bench>... broken) {
        list.add(new Sentence(where, words, edge, check, Arrays.asList(broken)));
    }

    /** A call of which only the lane matters here. */
    interface Ask {
        int of(Bench x, int lane);
    }

    final void noLane(String words, Ask ask) {
        sentence(words, "the lane is -1, 5, the least or the greatest number", t -> {
            Bench x = t.bench();
            for (int lane : LANES) {
                x.mount(lane, 1);
                x.rule(lane, 1, 1);
            }
            for (int lane : NO_LANES) {
                t.due(ask.of(x, lane), NO_LANE);
            }
            t.refusals(x, 0, 0, 0, 0, 0, 0, 0, 0, 0, 0);
            for (int lane : LANES) {
                t.cells(x, lane, 0);
                t.row(x, lane, 0, 0);
            }
        }, () -> takenFor(-1, SIGNS), () -> takenFor(5, PITCH));
    }

    /** The six calls that OFF can refuse: the lane never had cells, had them, or had none of them. */
    final void off(String words, Ask ask) {
        sentence(words, "never mounted; stripped; mounted with 0 cells and stripped", t -> {
            for (int lane : LANES) {
                Bench x = t.bench();
                x.rule(lane, 1, 1);
                t.due(ask.of(x, lane), OFF);
                x.mount(lane, 60);
                x.strip(lane);
                t.due(ask.of(x, lane), OFF);
                x.mount(lane, 0);
                x.strip(lane);
                t.due(ask.of(x, lane), OFF);
                t.due(x.count(lane), 3);
                t.due(x.count(5 + lane), 0);
            }
        }, () -> new Model() {
            @Override
            boolean off(int lane) {
                // Never mounted is taken for mounted with 0 cells.
                cells.putIfAbsent(name(lane), zeros(0));
                return super.off(lane);
            }
        }, () -> new Model() {
            @Override
            public int strip(int lane) {
                int answer = super.strip(lane);
                if (answer == 0) cells.put(name(lane), zeros(0));
                return answer;
            }
        });
    }

    private static Model takenFor(int noLane, int lane) {
        return new Model() {
            @Override
            boolean noLane(int asked) {
                return asked != noLane && super.noLane(asked);
            }

            @Override
            String name(int asked) {
                return super.name(asked == noLane ? lane : asked);
            }
        };
    }

    static List<Sentence> all() {
        List<Sentence> all = new ArrayList<>();
        for (Sentences part : List.of(
            new SentencesOfWhatItIs(), new SentencesOfLanes(), new SentencesOfSheets(), new SentencesOfRefusals(),
            new SentencesOfPlaying(), new SentencesOfSteps(), new SentencesOfConstants(), new Sentences01NewObject(),
            new Sentences02Mount(), new Sentences03Strip(), new Sentences04Size(), new Sentences05Cell(),
            new Sentences06Put(), new Sentences07Change(), new Sentences08Rule(), new Sentences09Lay(),
            new Sentences10At(), new Sentences11Head(), new Sentences12Play(), new Sentences13Count())) {
            all.addAll(part.list);
        }
        return all;
    }
}
