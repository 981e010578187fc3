import java.math.BigInteger;
import java.util.function.Consumer;

/** "Terms": by which a call is refused, what that leaves as it was, and how it is counted. */
final class SentencesOfRefusals extends Sentences {
    private static final String ORDER = "REFUSALS: each call tells by which it is refused, in this order;";
    private static final String NOTHING = "what is refused changes nothing but the counts of OFF and OUT:";
    private static final String COUNTS = "for each lane, how many calls were refused by each of these two.";

    SentencesOfRefusals() {
        super("Terms");
        orderOfMount();
        orderOfCell();
        orderOfPut();
        orderOfChange();
        orderOfRule();
        orderOfLay();
        orderOfAt();
        mountChangesNothing();
        stripChangesNothing();
        sizeChangesNothing();
        cellChangesNothing();
        putChangesNothing();
        changeChangesNothing();
        ruleChangesNothing();
        layChangesNothing();
        atChangesNothing();
        headChangesNothing();
        playChangesNothing();
        eachCallCountsOnceAsOff();
        eachCallCountsOnceAsOut();
        othersAreNotCounted();
        countsStay();
        countsOfAllCalls();
    }

    private void orderOfMount() {
        sentence(ORDER, "mount: no lane, and too many or too few cells", t -> {
            Bench x = t.bench();
            t.due(x.mount(5, 61), NO_LANE);
            t.due(x.mount(-1, 61), NO_LANE);
            t.due(x.mount(5, -1), NO_LANE);
            t.due(x.mount(-1, -1), NO_LANE);
        }, () -> new Model() {
            @Override
            public int mount(int lane, int n) {
                return n > 60 ? GREAT : super.mount(lane, n);
            }
        }, () -> new Model() {
            @Override
            public int mount(int lane, int n) {
                return n < 0 ? NEGATIVE : super.mount(lane, n);
            }
        });
    }

    private void orderOfCell() {
        sentence(ORDER, "cell: off, and no such cell", t -> {
            Bench x = t.bench();
            for (int lane : LANES) {
                t.due(x.cell(lane, -1), OFF);
                t.due(x.cell(lane, 60), OFF);
            }
            t.refusals(x, 2, 2, 2, 2, 2, 0, 0, 0, 0, 0);
        }, () -> new Model() {
            @Override
            public int cell(int lane, int i) {
                return !noLane(lane) && out(lane, i, 59) ? OUT : super.cell(lane, i);
            }
        });
    }

    private void orderOfPut() {
        sentence(ORDER, "put: off, and no such cell", t -> {
            Bench x = t.bench();
            for (int lane : LANES) {
                t.due(x.put(lane, -1, 1), OFF);
                t.due(x.put(lane, 60, 1), OFF);
            }
            t.refusals(x, 2, 2, 2, 2, 2, 0, 0, 0, 0, 0);
        }, () -> new Model() {
            @Override
            public int put(int lane, int i, int v) {
                return !noLane(lane) && out(lane, i, 59) ? OUT : super.put(lane, i, v);
            }
        });
    }

    private void orderOfChange() {
        sentence(ORDER, "change: no lane, no way, off and no such cell, by twos", t -> {
            Bench x = t.bench();
            t.due(x.change(5, 4, 0, 1), NO_LANE);
            t.due(x.change(-1, -1, -1, 1), NO_LANE);
            t.due(x.change(PEDAL, 4, 0, 1), NO_WAY);
            t.due(x.change(PEDAL, -1, -1, 1), NO_WAY);
            t.due(x.change(PEDAL, 0, -1, 1), OFF);
            x.mount(PEDAL, 1);
            t.due(x.change(PEDAL, 4, 1, 1), NO_WAY);
            t.due(x.change(PEDAL, -1, -1, 1), NO_WAY);
            t.refusals(x, 0, 0, 0, 1, 0, 0, 0, 0, 0, 0);
        }, () -> new Model() {
            @Override
            public int change(int lane, int way, int i, int v) {
                return way < 0 || way > 3 ? NO_WAY : super.change(lane, way, i, v);
            }
        }, () -> new Model() {
            @Override
            public int change(int lane, int way, int i, int v) {
                return !noLane(lane) && off(lane) ? OFF : super.change(lane, way, i, v);
            }
        }, () -> new Model() {
            @Override
            public int change(int lane, int way, int i, int v) {
                boolean on = !noLane(lane) && cells.containsKey(name(lane));
                return on && out(lane, i, cells.get(name(lane)).size() - 1) ? OUT : super.change(lane, way, i, v);
            }
        });
    }

    private void orderOfRule() {
        sentence(ORDER, "rule: no lane, too great and negative, by twos", t -> {
            Bench x = t.bench();
            t.due(x.rule(5, 17, 1), NO_LANE);
            t.due(x.rule(-1, 1, -1), NO_LANE);
            t.due(x.rule(SIGNS, 17, -1), GREAT);
            t.due(x.rule(SIGNS, -1, 17), GREAT);
            t.due(x.rule(SIGNS, MIN, MAX), GREAT);
            t.due(x.rule(SIGNS, MAX, MIN), GREAT);
        }, () -> new Model() {
            @Override
            public int rule(int lane, int rows, int columns) {
                return rows < 0 ? NEGATIVE : super.rule(lane, rows, columns);
            }
        }, () -> new Model() {
            @Override
            public int rule(int lane, int rows, int columns) {
                return !noLane(lane) && columns < 0 ? NEGATIVE : super.rule(lane, rows, columns);
            }
        }, () -> new Model() {
            @Override
            public int rule(int lane, int rows, int columns) {
                return rows > 16 ? GREAT : super.rule(lane, rows, columns);
            }
        });
    }

    private void orderOfLay() {
        sentence(ORDER, "lay: no sheet, no row, off and no such cell, by twos", t -> {
            Bench x = t.bench();
            t.due(x.lay(5, -1, -1), NO_LANE);
            t.due(x.lay(FORCE, -1, -1), NO_SHEET);
            x.mount(FORCE, 1);
            t.due(x.lay(FORCE, 0, 2), NO_SHEET);
            x.rule(FORCE, 1, 1);
            t.due(x.lay(FORCE, 1, 2), NO_ROW);
            x.strip(FORCE);
            t.due(x.lay(FORCE, 1, 0), NO_ROW);
            t.due(x.lay(FORCE, 0, -1), OFF);
            t.due(x.lay(FORCE, 0, 61), OFF);
            t.refusals(x, 0, 0, 2, 0, 0, 0, 0, 0, 0, 0);
        }, () -> new Model() {
            @Override
            public int lay(int lane, int row, int from) {
                return !noLane(lane) && off(lane) ? OFF : super.lay(lane, row, from);
            }
        }, () -> new Model() {
            @Override
            public int lay(int lane, int row, int from) {
                return !noLane(lane) && out(lane, from, 1) ? OUT : super.lay(lane, row, from);
            }
        }, () -> new Model() {
            @Override
            public int lay(int lane, int row, int from) {
                return !noLane(lane) && row != 0 ? NO_ROW : super.lay(lane, row, from);
            }
        });
    }

    private void orderOfAt() {
        sentence(ORDER, "at: no lane, no sheet, no row and no column, by twos", t -> {
            Bench x = t.bench();
            t.due(x.at(5, -1, -1), NO_LANE);
            t.due(x.at(TICKS, -1, -1), NO_SHEET);
            t.due(x.at(TICKS, 0, 16), NO_SHEET);
            x.rule(TICKS, 1, 1);
            t.due(x.at(TICKS, 1, 1), NO_ROW);
            t.due(x.at(TICKS, -1, -1), NO_ROW);
        }, () -> new Model() {
            @Override
            public int at(int lane, int row, int column) {
                return !noLane(lane) && column < 0 ? NO_COLUMN : super.at(lane, row, column);
            }
        }, () -> new Model() {
            @Override
            public int at(int lane, int row, int column) {
                return !noLane(lane) && row < 0 ? NO_ROW : super.at(lane, row, column);
            }
        });
    }

    private void mountChangesNothing() {
        sentence(NOTHING, "mount refused", t -> leavesAll(t, x -> {
            t.due(x.mount(SIGNS, 61), GREAT);
            t.due(x.mount(TICKS, -1), NEGATIVE);
            t.due(x.mount(FORCE, 61), GREAT);
            t.due(x.mount(FORCE, -1), NEGATIVE);
            t.due(x.mount(5, 3), NO_LANE);
        }, 0, 0), () -> new Model() {
            @Override
            public int mount(int lane, int n) {
                int answer = super.mount(lane, n);
                if (answer == GREAT) super.mount(lane, 60);
                return answer;
            }
        }, () -> new Model() {
            @Override
            public int mount(int lane, int n) {
                int answer = super.mount(lane, n);
                if (answer == NEGATIVE) cells.remove(name(lane));
                return answer;
            }
        });
    }

    private void stripChangesNothing() {
        sentence(NOTHING, "strip refused", t -> leavesAll(t, x -> {
            t.due(x.strip(FORCE), OFF);
            t.due(x.strip(5), NO_LANE);
        }, 1, 0), () -> new Model() {
            @Override
            public int strip(int lane) {
                int answer = super.strip(lane);
                if (answer == OFF) sheets.remove(name(lane));
                return answer;
            }
        });
    }

    private void sizeChangesNothing() {
        sentence(NOTHING, "size refused", t -> leavesAll(t, x -> {
            t.due(x.size(FORCE), OFF);
            t.due(x.size(FORCE), OFF);
            t.due(x.size(5), NO_LANE);
        }, 2, 0), () -> new Model() {
            @Override
            public int size(int lane) {
                int answer = super.size(lane);
                if (answer == OFF) cells.put(name(lane), zeros(0));
                return answer;
            }
        });
    }

    private void cellChangesNothing() {
        sentence(NOTHING, "cell refused", t -> leavesAll(t, x -> {
            t.due(x.cell(FORCE, 0), OFF);
            t.due(x.cell(TICKS, 2), OUT);
            t.due(x.cell(TICKS, -1), OUT);
            t.due(x.cell(5, 0), NO_LANE);
        }, 1, 2), () -> new Model() {
            @Override
            public int cell(int lane, int i) {
                int answer = super.cell(lane, i);
                if (answer == OUT) cells.get(name(lane)).add(BigInteger.ZERO);
                return answer;
            }
        });
    }

    private void putChangesNothing() {
        sentence(NOTHING, "put refused", t -> leavesAll(t, x -> {
            t.due(x.put(FORCE, 0, 9), OFF);
            t.due(x.put(TICKS, 2, 9), OUT);
            t.due(x.put(TICKS, -1, 9), OUT);
            t.due(x.put(5, 0, 9), NO_LANE);
        }, 1, 2), () -> new Model() {
            @Override
            public int put(int lane, int i, int v) {
                int answer = super.put(lane, i, v);
                if (answer == OUT && i > 0) cells.get(name(lane)).add(BigInteger.valueOf(v));
                return answer;
            }
        }, () -> new Model() {
            @Override
            public int put(int lane, int i, int v) {
                int answer = super.put(lane, i, v);
                if (answer == OUT && i < 0) store(lane, 0, BigInteger.valueOf(v));
                return answer;
            }
        });
    }

    private void changeChangesNothing() {
        sentence(NOTHING, "change refused", t -> leavesAll(t, x -> {
            t.due(x.change(FORCE, 3, 0, 9), OFF);
            t.due(x.change(TICKS, 0, 2, 9), OUT);
            t.due(x.change(TICKS, 0, -1, 9), OUT);
            t.due(x.change(TICKS, 4, 1, 9), NO_WAY);
            t.due(x.change(TICKS, -1, 0, 9), NO_WAY);
            t.due(x.change(TICKS, 4, 2, 9), NO_WAY);
            t.due(x.change(FORCE, 4, 0, 9), NO_WAY);
            t.due(x.change(5, 0, 0, 9), NO_LANE);
        }, 1, 2), () -> new Model() {
            @Override
            public int change(int lane, int way, int i, int v) {
                int answer = super.change(lane, way, i, v);
                if (answer == NO_WAY && i == 1) store(lane, i, BigInteger.valueOf(v));
                return answer;
            }
        }, () -> new Model() {
            @Override
            public int change(int lane, int way, int i, int v) {
                int answer = super.change(lane, way, i, v);
                if (answer == NO_WAY) off(lane);
                return answer;
            }
        });
    }

    private void ruleChangesNothing() {
        sentence(NOTHING, "rule refused", t -> leavesAll(t, x -> {
            t.due(x.rule(SIGNS, 17, 1), GREAT);
            t.due(x.rule(SIGNS, 1, 17), GREAT);
            t.due(x.rule(FORCE, -1, 1), NEGATIVE);
            t.due(x.rule(FORCE, 1, -1), NEGATIVE);
            t.due(x.rule(PITCH, 17, 17), GREAT);
            t.due(x.rule(PITCH, -1, -1), NEGATIVE);
            t.due(x.rule(5, 1, 1), NO_LANE);
        }, 0, 0), () -> new Model() {
            @Override
            public int rule(int lane, int rows, int columns) {
                int answer = super.rule(lane, rows, columns);
                if (answer == NEGATIVE) sheets.remove(name(lane));
                return answer;
            }
        }, () -> new Model() {
            @Override
            public int rule(int lane, int rows, int columns) {
                int answer = super.rule(lane, rows, columns);
                if (answer == GREAT) super.rule(lane, Math.min(16, rows), Math.min(16, columns));
                return answer;
            }
        });
    }

    private void layChangesNothing() {
        sentence(NOTHING, "lay refused", t -> leavesAll(t, x -> {
            t.due(x.lay(FORCE, 0, 0), OFF);
            t.due(x.lay(SIGNS, 0, 4), OUT);
            t.due(x.lay(SIGNS, 1, -1), OUT);
            t.due(x.lay(SIGNS, 2, 0), NO_ROW);
            t.due(x.lay(SIGNS, -1, 0), NO_ROW);
            t.due(x.lay(TICKS, 0, 0), NO_SHEET);
            t.due(x.lay(5, 0, 0), NO_LANE);
        }, 1, 2), () -> new Model() {
            @Override
            public int lay(int lane, int row, int from) {
                int answer = super.lay(lane, row, from);
                if (answer == OUT && from < 0) super.lay(lane, row, 0);
                return answer;
            }
        }, () -> new Model() {
            @Override
            public int lay(int lane, int row, int from) {
                int answer = super.lay(lane, row, from);
                if (answer == NO_ROW && row > 0) super.lay(lane, row - 1, from);
                return answer;
            }
        });
    }

    private void atChangesNothing() {
        sentence(NOTHING, "at refused", t -> leavesAll(t, x -> {
            t.due(x.at(SIGNS, 2, 0), NO_ROW);
            t.due(x.at(SIGNS, -1, 0), NO_ROW);
            t.due(x.at(SIGNS, 0, 2), NO_COLUMN);
            t.due(x.at(SIGNS, 0, -1), NO_COLUMN);
            t.due(x.at(TICKS, 0, 0), NO_SHEET);
            t.due(x.at(5, 0, 0), NO_LANE);
        }, 0, 0), () -> new Model() {
            @Override
            public int at(int lane, int row, int column) {
                int answer = super.at(lane, row, column);
                if (answer == NO_COLUMN) out(lane, -1, 0);
                return answer;
            }
        });
    }

    private void headChangesNothing() {
        sentence(NOTHING, "head refused", t -> leavesAll(t, x -> {
            t.due(x.head(61), GREAT);
            t.due(x.head(-1), NEGATIVE);
        }, 0, 0), () -> new Model() {
            @Override
            public int head(int h) {
                int answer = super.head(h);
                if (answer == GREAT) head = 60;
                return answer;
            }
        }, () -> new Model() {
            @Override
            public int head(int h) {
                int answer = super.head(h);
                if (answer == NEGATIVE) head = 0;
                return answer;
            }
        });
    }

    private void playChangesNothing() {
        sentence(NOTHING, "play refused", t -> leavesAll(t, x -> {
            t.due(x.play(201), GREAT);
            t.due(x.play(-1), NEGATIVE);
        }, 0, 0), () -> new Model() {
            @Override
            public int play(int n) {
                int answer = super.play(n);
                if (answer == GREAT) super.play(200);
                return answer;
            }
        }, () -> new Model() {
            @Override
            public int play(int n) {
                int answer = super.play(n);
                if (answer == NEGATIVE) super.play(1);
                return answer;
            }
        });
    }

    private void eachCallCountsOnceAsOff() {
        sentence(COUNTS, "by OFF, each call that can be, each lane apart", t -> {
            Bench x = t.bench();
            for (int lane : LANES) {
                x.rule(lane, 1, 1);
                t.due(x.strip(lane), OFF);
                t.due(x.count(lane), 1);
                t.due(x.size(lane), OFF);
                t.due(x.count(lane), 2);
                t.due(x.cell(lane, -1), OFF);
                t.due(x.count(lane), 3);
                t.due(x.put(lane, 60, 0), OFF);
                t.due(x.count(lane), 4);
                t.due(x.change(lane, 3, 0, 0), OFF);
                t.due(x.count(lane), 5);
                t.due(x.lay(lane, 0, 61), OFF);
                t.due(x.count(lane), 6);
            }
            t.refusals(x, 6, 6, 6, 6, 6, 0, 0, 0, 0, 0);
        }, () -> new Model() {
            @Override
            public int strip(int lane) {
                int answer = super.strip(lane);
                if (answer == OFF) offs.merge(name(lane), -1, Integer::sum);
                return answer;
            }
        }, () -> new Model() {
            @Override
            public int lay(int lane, int row, int from) {
                int answer = super.lay(lane, row, from);
                if (answer == OFF) offs.merge(name(lane), -1, Integer::sum);
                return answer;
            }
        }, () -> new Model() {
            @Override
            public int change(int lane, int way, int i, int v) {
                int answer = super.change(lane, way, i, v);
                if (answer == OFF) off(lane);
                return answer;
            }
        }, () -> new Model() {
            @Override
            public int cell(int lane, int i) {
                int answer = super.cell(lane, i);
                if (answer == OFF) out(lane, i, -1);
                return answer;
            }
        });
    }

    private void eachCallCountsOnceAsOut() {
        sentence(COUNTS, "by OUT, each call that can be, each lane apart", t -> {
            Bench x = t.bench();
            for (int lane : LANES) {
                x.rule(lane, 1, 1);
                x.mount(lane, 2);
                t.due(x.cell(lane, 2), OUT);
                t.due(x.count(5 + lane), 1);
                t.due(x.put(lane, -1, 0), OUT);
                t.due(x.count(5 + lane), 2);
                t.due(x.change(lane, 3, 2, 0), OUT);
                t.due(x.count(5 + lane), 3);
                t.due(x.lay(lane, 0, 3), OUT);
                t.due(x.count(5 + lane), 4);
            }
            t.refusals(x, 0, 0, 0, 0, 0, 4, 4, 4, 4, 4);
        }, () -> new Model() {
            @Override
            public int lay(int lane, int row, int from) {
                int answer = super.lay(lane, row, from);
                if (answer == OUT) outs.merge(name(lane), -1, Integer::sum);
                return answer;
            }
        }, () -> new Model() {
            @Override
            public int put(int lane, int i, int v) {
                int answer = super.put(lane, i, v);
                if (answer == OUT) outs.merge(name(lane), -1, Integer::sum);
                return answer;
            }
        }, () -> new Model() {
            @Override
            public int change(int lane, int way, int i, int v) {
                int answer = super.change(lane, way, i, v);
                if (answer == OUT) offs.merge(name(lane), 1, Integer::sum);
                return answer;
            }
        });
    }

    private void othersAreNotCounted() {
        sentence(COUNTS, "not by the other seven", t -> {
            Bench x = t.bench();
            for (int lane : LANES) {
                t.due(x.mount(lane, 61), GREAT);
                t.due(x.mount(lane, -1), NEGATIVE);
                t.due(x.change(lane, 4, 0, 0), NO_WAY);
                t.due(x.lay(lane, 0, 0), NO_SHEET);
                t.due(x.at(lane, 0, 0), NO_SHEET);
                t.due(x.rule(lane, 17, 0), GREAT);
                t.due(x.rule(lane, 0, -1), NEGATIVE);
                x.rule(lane, 1, 1);
                t.due(x.lay(lane, 1, 0), NO_ROW);
                t.due(x.at(lane, -1, 0), NO_ROW);
                t.due(x.at(lane, 0, 1), NO_COLUMN);
            }
            t.due(x.size(5), NO_LANE);
            t.due(x.cell(-1, 0), NO_LANE);
            t.refusals(x, 0, 0, 0, 0, 0, 0, 0, 0, 0, 0);
        }, () -> new Model() {
            @Override
            public int lay(int lane, int row, int from) {
                int answer = super.lay(lane, row, from);
                if (answer == NO_ROW) off(lane);
                return answer;
            }
        }, () -> new Model() {
            @Override
            public int mount(int lane, int n) {
                int answer = super.mount(lane, n);
                if (answer == GREAT) outs.merge(name(lane), 1, Integer::sum);
                return answer;
            }
        });
    }

    private void countsStay() {
        sentence(COUNTS, "mounted, stripped, ruled and played, a lane keeps its counts", t -> {
            for (int lane : LANES) {
                Bench x = t.bench();
                x.size(lane);
                x.mount(lane, 1);
                x.cell(lane, 1);
                x.mount(lane, 2);
                x.strip(lane);
                x.rule(lane, 1, 1);
                x.mount(lane, 0);
                x.play(1);
                x.head(0);
                t.due(x.count(lane), 1);
                t.due(x.count(5 + lane), 1);
            }
        }, () -> new Model() {
            @Override
            public int mount(int lane, int n) {
                offs.remove(name(lane));
                return super.mount(lane, n);
            }
        }, () -> new Model() {
            @Override
            public int strip(int lane) {
                outs.remove(name(lane));
                return super.strip(lane);
            }
        });
    }

    private void countsOfAllCalls() {
        sentence(COUNTS, "as many as an object may be asked", t -> {
            Bench off = t.bench();
            for (int k = 0; k < 511; k++) {
                off.size(PITCH);
            }
            t.due(off.count(4), 511);
            Bench out = t.bench();
            out.mount(PITCH, 0);
            for (int k = 0; k < 510; k++) {
                out.cell(PITCH, 0);
            }
            t.due(out.count(9), 510);
        }, () -> new Model() {
            @Override
            public int count(int what) {
                return Math.min(super.count(what), 510);
            }
        }, () -> new Model() {
            @Override
            public int count(int what) {
                return super.count(what) & 255;
            }
        });
    }

    /**
     * Makes a bench on which much has been done, asks what is refused, and looks at all there is.
     * Only the counts of OFF of FORCE and of OUT of SIGNS and TICKS may have grown, by so many.
     */
    private static void leavesAll(Trial t, Consumer<Bench> refused, int off, int out) {
        Bench x = t.roll("|n.");
        t.write(x, TICKS, 3, 4);
        t.write(x, PEDAL, 0, 1);
        t.write(x, PITCH, 5, 6);
        x.rule(SIGNS, 2, 2);
        x.lay(SIGNS, 0, 0);
        x.lay(SIGNS, 1, 1);
        x.rule(FORCE, 1, 1);
        x.play(2);
        refused.accept(x);
        t.due(x.count(FORCE), off);
        t.due(x.count(5 + SIGNS) + x.count(5 + TICKS), out);
        for (int other : new int[] {SIGNS, TICKS, PEDAL, PITCH, 5 + FORCE, 5 + PEDAL, 5 + PITCH}) {
            t.due(x.count(other), 0);
        }
        t.playing(x, 2, 8, 0, 0, 1, 56, 0);
        t.cells(x, SIGNS, '|', 'n', '.');
        t.cells(x, TICKS, 3, 4);
        t.due(x.size(FORCE), OFF);
        t.cells(x, PEDAL, 0, 1);
        t.cells(x, PITCH, 5, 6);
        t.row(x, SIGNS, 0, '|', 'n');
        t.row(x, SIGNS, 1, 'n', '.');
        t.due(x.at(SIGNS, 2, 0), NO_ROW);
        t.row(x, FORCE, 0, 0);
        t.due(x.at(FORCE, 1, 0), NO_ROW);
        for (int lane : new int[] {TICKS, PEDAL, PITCH}) {
            t.due(x.at(lane, 0, 0), NO_SHEET);
        }
    }
}
