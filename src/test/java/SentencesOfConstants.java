/** "Terms": the nine constants, and when each of them is the answer. */
final class SentencesOfConstants extends Sentences {
    SentencesOfConstants() {
        super("Terms");
        constant("`NO_LANE = -1000001`: There is no such lane.", t -> {
            t.due(t.bench().size(5), -1000001);
            t.due(RollBench.NO_LANE, -1000001);
        }, -1000001);
        constant("`NO_WAY = -1000002`: There is no such way.", t -> {
            t.due(t.bench().change(SIGNS, 4, 0, 0), -1000002);
            t.due(RollBench.NO_WAY, -1000002);
        }, -1000002);
        constant("`GREAT = -1000003`: More than there may be.", t -> {
            t.due(t.bench().mount(SIGNS, 61), -1000003);
            t.due(t.bench().rule(SIGNS, 17, 0), -1000003);
            t.due(t.bench().head(61), -1000003);
            t.due(t.bench().play(201), -1000003);
            t.due(RollBench.GREAT, -1000003);
        }, -1000003);
        constant("`NEGATIVE = -1000004`: A number below 0 where things are made.", t -> {
            t.due(t.bench().mount(SIGNS, -1), -1000004);
            t.due(t.bench().rule(SIGNS, -1, 0), -1000004);
            t.due(t.bench().head(-1), -1000004);
            t.due(t.bench().play(-1), -1000004);
            t.due(RollBench.NEGATIVE, -1000004);
        }, -1000004);
        constant("`OFF = -1000005`: The lane is off.", t -> {
            t.due(t.bench().size(SIGNS), -1000005);
            t.due(RollBench.OFF, -1000005);
        }, -1000005);
        constant("`OUT = -1000006`: It has no such cell.", t -> {
            t.due(t.bench(SIGNS, 1).cell(SIGNS, 1), -1000006);
            t.due(RollBench.OUT, -1000006);
        }, -1000006);
        constant("`NO_SHEET = -1000007`: The lane has no sheet.", t -> {
            t.due(t.bench().at(SIGNS, 0, 0), -1000007);
            t.due(RollBench.NO_SHEET, -1000007);
        }, -1000007);
        constant("`NO_ROW = -1000008`: The sheet has no such row.", t -> {
            t.due(ruled(t).at(SIGNS, 1, 0), -1000008);
            t.due(RollBench.NO_ROW, -1000008);
        }, -1000008);
        constant("`NO_COLUMN = -1000009`: The row has no such column.", t -> {
            t.due(ruled(t).at(SIGNS, 0, 1), -1000009);
            t.due(RollBench.NO_COLUMN, -1000009);
        }, -1000009);
    }

    private void constant(String words, Sentence.Check check, int number) {
        sentence(words, "its number, in the class and as an answer", check, () -> misnumbered(number));
    }

    private static Bench ruled(Trial t) {
        Bench x = t.bench();
        x.rule(SIGNS, 1, 1);
        return x;
    }

    /** A bench that answers one refusal by another number. */
    private static Model misnumbered(int number) {
        return new Model() {
            private int wrong(int answer) {
                return answer == number ? number - 100 : answer;
            }

            @Override
            public int mount(int lane, int n) {
                return wrong(super.mount(lane, n));
            }

            @Override
            public int size(int lane) {
                return wrong(super.size(lane));
            }

            @Override
            public int cell(int lane, int i) {
                return wrong(super.cell(lane, i));
            }

            @Override
            public int change(int lane, int way, int i, int v) {
                return wrong(super.change(lane, way, i, v));
            }

            @Override
            public int at(int lane, int row, int column) {
                return wrong(super.at(lane, row, column));
            }
        };
    }
}
