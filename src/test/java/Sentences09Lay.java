import java.math.BigInteger;
import java.util.List;

final class Sentences09Lay extends Sentences {
    private static final String LAYS = "The lane's cells from one on are laid into a row of its sheet, from column 0 on,"
        + " as far as there are cells and columns: how many.";
    private static final String OUTSIDE =
        "OUT: from is below 0 or above how many cells there are (at just that none is laid).";

    Sentences09Lay() {
        super("Promise 9: lay");
        moreCellsThanColumns();
        fewerCellsThanColumns();
        asManyCellsAsColumns();
        sixteenOfSixty();
        theLastCellAlone();
        noColumns();
        firstAndLastRow();
        laidOnce();
        otherLanesStay();
        noLane("NO_LANE;", (x, lane) -> x.lay(lane, 0, 0));
        noSheet();
        noRow();
        noRowOfNone();
        off("OFF;", (x, lane) -> x.lay(lane, 0, 0));
        offLeavesTheRow();
        belowNought();
        aboveHowMany();
        justHowMany();
        noCells();
    }

    private void moreCellsThanColumns() {
        sentence(LAYS, "more cells than columns", t -> {
            for (int lane : LANES) {
                Bench x = t.bench(lane, 1, 0, 1, 1, 1);
                x.rule(lane, 2, 3);
                t.due(x.lay(lane, 0, 0), 3);
                t.row(x, lane, 0, 1, 0, 1);
                t.row(x, lane, 1, 0, 0, 0);
                t.due(x.lay(lane, 1, 1), 3);
                t.row(x, lane, 1, 0, 1, 1);
                t.row(x, lane, 0, 1, 0, 1);
            }
        }, () -> new Model() {
            @Override
            public int lay(int lane, int row, int from) {
                int answer = super.lay(lane, row, from);
                return answer < 0 ? answer : cells.get(name(lane)).size() - from;
            }
        }, () -> new Model() {
            @Override
            public int lay(int lane, int row, int from) {
                int answer = super.lay(lane, row, from);
                if (answer == 3 && row == 0) sheets.get(name(lane)).get(1).set(0, has(lane, 3));
                return answer;
            }
        }, () -> new Model() {
            @Override
            public int lay(int lane, int row, int from) {
                return super.lay(lane, row, from == 1 ? 0 : from);
            }
        });
    }

    private void fewerCellsThanColumns() {
        sentence(LAYS, "fewer cells than columns: the rest of the row stays", t -> {
            for (int lane : LANES) {
                Bench x = t.bench(lane, 1, 1, 1, 1);
                x.rule(lane, 1, 4);
                x.lay(lane, 0, 0);
                t.write(x, lane, 0, 0);
                t.due(x.lay(lane, 0, 0), 2);
                t.row(x, lane, 0, 0, 0, 1, 1);
            }
        }, () -> new Model() {
            @Override
            public int lay(int lane, int row, int from) {
                int answer = super.lay(lane, row, from);
                if (answer == 2) sheets.get(name(lane)).get(row).set(2, BigInteger.ZERO);
                return answer;
            }
        }, () -> new Model() {
            @Override
            public int lay(int lane, int row, int from) {
                int answer = super.lay(lane, row, from);
                return answer < 0 ? answer : columnsOf.get(name(lane));
            }
        });
    }

    private void asManyCellsAsColumns() {
        sentence(LAYS, "just as many cells as columns, all of them or from one on", t -> {
            for (int lane : LANES) {
                Bench x = t.bench(lane, 1, 0, 1);
                x.rule(lane, 1, 3);
                t.due(x.lay(lane, 0, 0), 3);
                t.row(x, lane, 0, 1, 0, 1);
                x.rule(lane, 1, 2);
                t.due(x.lay(lane, 0, 1), 2);
                t.row(x, lane, 0, 0, 1);
            }
        }, () -> new Model() {
            @Override
            public int lay(int lane, int row, int from) {
                boolean all = from == 0 && super.at(lane, row, 2) == 0;
                int answer = super.lay(lane, row, from);
                if (all && answer == 3) sheets.get(name(lane)).get(row).set(2, BigInteger.ZERO);
                return answer;
            }
        });
    }

    private void sixteenOfSixty() {
        sentence(LAYS, "16 columns of 60 cells: the first 16, the last 16, and one fewer", t -> {
            Bench x = t.bench();
            x.mount(TICKS, 60);
            for (int i = 0; i < 60; i++) {
                x.put(TICKS, i, 100 + i);
            }
            x.rule(TICKS, 16, 16);
            for (int from : new int[] {0, 43, 44, 45}) {
                t.due(x.lay(TICKS, 15, from), Math.min(16, 60 - from));
                for (int column = 0; column < 16; column++) {
                    int stays = 100 + 44 + column;
                    t.due(x.at(TICKS, 15, column), from + column < 60 ? 100 + from + column : stays);
                }
            }
        }, () -> new Model() {
            @Override
            public int lay(int lane, int row, int from) {
                int answer = super.lay(lane, row, from);
                return answer == 16 && from == 44 ? 15 : answer;
            }
        }, () -> new Model() {
            @Override
            public int lay(int lane, int row, int from) {
                int answer = super.lay(lane, row, from);
                if (answer == 15) sheets.get(name(lane)).get(row).set(15, BigInteger.ZERO);
                return answer;
            }
        });
    }

    private void theLastCellAlone() {
        sentence(LAYS, "from the last cell on: one", t -> {
            for (int lane : LANES) {
                Bench x = t.bench(lane, 0, 0, 1);
                x.rule(lane, 1, 3);
                t.due(x.lay(lane, 0, 2), 1);
                t.row(x, lane, 0, 1, 0, 0);
                x.mount(lane, 60);
                x.put(lane, 59, 1);
                x.rule(lane, 1, 2);
                t.due(x.lay(lane, 0, 59), 1);
                t.row(x, lane, 0, 1, 0);
            }
        }, () -> new Model() {
            @Override
            public int lay(int lane, int row, int from) {
                return from == 59 ? 0 : super.lay(lane, row, from);
            }
        }, () -> new Model() {
            @Override
            public int lay(int lane, int row, int from) {
                int answer = super.lay(lane, row, from);
                return from == 2 && answer == 1 ? 0 : answer;
            }
        });
    }

    private void noColumns() {
        sentence(LAYS, "0 columns: none", t -> {
            for (int lane : LANES) {
                Bench x = t.bench(lane, 1, 1);
                x.rule(lane, 16, 0);
                t.due(x.lay(lane, 0, 0), 0);
                t.due(x.lay(lane, 15, 1), 0);
                t.due(x.lay(lane, 15, 2), 0);
                t.due(x.at(lane, 0, 0), NO_COLUMN);
            }
        }, () -> new Model() {
            @Override
            public int lay(int lane, int row, int from) {
                int answer = super.lay(lane, row, from);
                return answer == 0 && columnsOf.get(name(lane)) == 0 ? NO_COLUMN : answer;
            }
        });
    }

    private void firstAndLastRow() {
        sentence(LAYS, "the first row, the last of 16, and no other", t -> {
            for (int lane : LANES) {
                Bench x = t.bench(lane, 1, 1);
                x.rule(lane, 16, 2);
                t.due(x.lay(lane, 0, 0), 2);
                t.due(x.lay(lane, 15, 0), 2);
                for (int row = 0; row < 16; row++) {
                    int due = row == 0 || row == 15 ? 1 : 0;
                    t.row(x, lane, row, due, due);
                }
            }
        }, () -> new Model() {
            @Override
            public int lay(int lane, int row, int from) {
                return row == 15 ? NO_ROW : super.lay(lane, row, from);
            }
        }, () -> new Model() {
            @Override
            public int lay(int lane, int row, int from) {
                int answer = super.lay(lane, row, from);
                if (row == 15) super.lay(lane, 14, from);
                return answer;
            }
        });
    }

    private void laidOnce() {
        sentence(LAYS, "what is laid stays as it was laid, and the cells stay too", t -> {
            for (int lane : LANES) {
                Bench x = t.bench(lane, 1, 0);
                x.rule(lane, 1, 2);
                t.due(x.lay(lane, 0, 0), 2);
                t.cells(x, lane, 1, 0);
                x.put(lane, 0, 0);
                x.change(lane, 3, 1, 0);
                t.row(x, lane, 0, 1, 0);
                x.mount(lane, 2);
                t.row(x, lane, 0, 1, 0);
            }
        }, () -> new Model() {
            @Override
            public int lay(int lane, int row, int from) {
                int answer = super.lay(lane, row, from);
                if (answer == 2) sheets.get(name(lane)).set(row, cells.get(name(lane)));
                return answer;
            }
        }, () -> new Model() {
            @Override
            public int lay(int lane, int row, int from) {
                int answer = super.lay(lane, row, from);
                if (answer == 2) cells.put(name(lane), zeros(2));
                return answer;
            }
        });
    }

    private void otherLanesStay() {
        sentence(LAYS, "its sheet, and its cells, not another lane's", t -> {
            for (int lane : LANES) {
                Bench x = t.bench();
                for (int other : LANES) {
                    t.write(x, other, other == lane ? 1 : 0, 0);
                    x.rule(other, 1, 2);
                }
                t.due(x.lay(lane, 0, 0), 2);
                for (int other : LANES) {
                    t.row(x, other, 0, other == lane ? 1 : 0, 0);
                }
            }
        }, () -> new Model() {
            @Override
            public int lay(int lane, int row, int from) {
                int answer = super.lay(lane, row, from);
                List<BigInteger> laid = sheets.get(name(lane)).get(row);
                if (lane == FORCE) sheets.get("TICKS").get(row).set(0, laid.get(0));
                return answer;
            }
        });
    }

    private void noSheet() {
        sentence("NO_SHEET;", "none at first; with cells, without cells, off", t -> {
            for (int lane : LANES) {
                Bench x = t.bench();
                t.due(x.lay(lane, 0, 0), NO_SHEET);
                x.mount(lane, 0);
                t.due(x.lay(lane, 0, 0), NO_SHEET);
                t.write(x, lane, 1, 1);
                t.due(x.lay(lane, 0, 0), NO_SHEET);
                t.due(x.lay(lane, -1, 3), NO_SHEET);
                x.rule((lane + 1) % 5, 1, 1);
                t.due(x.lay(lane, 0, 0), NO_SHEET);
                t.refusals(x, 0, 0, 0, 0, 0, 0, 0, 0, 0, 0);
            }
        }, () -> new Model() {
            @Override
            public int lay(int lane, int row, int from) {
                int answer = super.lay(lane, row, from);
                return answer == NO_SHEET ? NO_ROW : answer;
            }
        }, () -> new Model() {
            @Override
            public int lay(int lane, int row, int from) {
                int answer = super.lay(lane, row, from);
                return answer == NO_SHEET && off(lane) ? OFF : answer;
            }
        });
    }

    private void noRow() {
        sentence("NO_ROW;", "-1, one behind the last, 16, the least and the greatest number", t -> {
            for (int lane : LANES) {
                Bench x = t.bench(lane, 1, 1);
                x.rule(lane, 2, 2);
                for (int row : new int[] {-1, 2, 3, 15, 16, MIN, MAX}) {
                    t.due(x.lay(lane, row, 0), NO_ROW);
                }
                t.row(x, lane, 0, 0, 0);
                t.row(x, lane, 1, 0, 0);
                x.rule(lane, 16, 1);
                t.due(x.lay(lane, 16, 0), NO_ROW);
                t.refusals(x, 0, 0, 0, 0, 0, 0, 0, 0, 0, 0);
            }
        }, () -> new Model() {
            @Override
            public int lay(int lane, int row, int from) {
                return super.lay(lane, row == -1 ? 0 : row, from);
            }
        }, () -> new Model() {
            @Override
            public int lay(int lane, int row, int from) {
                return super.lay(lane, row == 2 ? 1 : row, from);
            }
        }, () -> new Model() {
            @Override
            public int lay(int lane, int row, int from) {
                int answer = super.lay(lane, row, from);
                if (answer == NO_ROW) out(lane, row, -1);
                return answer;
            }
        });
    }

    private void noRowOfNone() {
        sentence("NO_ROW;", "row 0 of 0 rows, and a row that the sheet had before it was ruled anew", t -> {
            for (int lane : LANES) {
                Bench x = t.bench(lane, 1, 1);
                x.rule(lane, 0, 16);
                t.due(x.lay(lane, 0, 0), NO_ROW);
                x.rule(lane, 3, 1);
                x.rule(lane, 1, 1);
                t.due(x.lay(lane, 1, 0), NO_ROW);
                t.due(x.lay(lane, 2, 0), NO_ROW);
                t.due(x.lay(lane, 0, 0), 1);
            }
        }, () -> new Model() {
            @Override
            public int lay(int lane, int row, int from) {
                boolean none = !noLane(lane) && sheets.containsKey(name(lane)) && sheets.get(name(lane)).isEmpty();
                return none ? NO_SHEET : super.lay(lane, row, from);
            }
        }, () -> new Model() {
            private int most;

            @Override
            public int rule(int lane, int rows, int columns) {
                most = Math.max(most, rows);
                return super.rule(lane, rows, columns);
            }

            @Override
            public int lay(int lane, int row, int from) {
                int answer = super.lay(lane, row, from);
                return answer == NO_ROW && row > 0 && row < most ? 1 : answer;
            }
        });
    }

    private void offLeavesTheRow() {
        sentence("OFF;", "whatever from is; the row stays", t -> {
            for (int lane : LANES) {
                Bench x = t.bench(lane, 1, 1);
                x.rule(lane, 1, 2);
                x.lay(lane, 0, 0);
                x.strip(lane);
                for (int from : new int[] {-1, 0, 1, 2, 60, 61, MIN, MAX}) {
                    t.due(x.lay(lane, 0, from), OFF);
                }
                t.row(x, lane, 0, 1, 1);
                t.due(x.count(lane), 8);
                t.due(x.count(5 + lane), 0);
            }
        }, () -> new Model() {
            @Override
            public int lay(int lane, int row, int from) {
                int answer = super.lay(lane, row, from);
                return answer == OFF && from < 0 ? OUT : answer;
            }
        }, () -> new Model() {
            @Override
            public int lay(int lane, int row, int from) {
                int answer = super.lay(lane, row, from);
                if (answer == OFF) sheets.get(name(lane)).get(row).set(0, BigInteger.ZERO);
                return answer;
            }
        });
    }

    private void belowNought() {
        sentence(OUTSIDE, "-1, and the least number; the row stays", t -> {
            for (int lane : LANES) {
                Bench x = t.bench(lane, 1, 1, 0);
                x.rule(lane, 1, 2);
                x.lay(lane, 0, 0);
                t.due(x.lay(lane, 0, -1), OUT);
                t.due(x.lay(lane, 0, MIN), OUT);
                t.row(x, lane, 0, 1, 1);
                t.due(x.count(5 + lane), 2);
                t.due(x.count(lane), 0);
            }
        }, () -> new Model() {
            @Override
            public int lay(int lane, int row, int from) {
                return super.lay(lane, row, from == -1 ? 0 : from);
            }
        }, () -> new Model() {
            @Override
            public int lay(int lane, int row, int from) {
                return from == MIN ? 0 : super.lay(lane, row, from);
            }
        });
    }

    private void aboveHowMany() {
        sentence(OUTSIDE, "one above how many there are, and the greatest number; the row stays", t -> {
            for (int lane : LANES) {
                Bench x = t.bench(lane, 1, 1, 0);
                x.rule(lane, 1, 2);
                x.lay(lane, 0, 0);
                t.due(x.lay(lane, 0, 4), OUT);
                t.due(x.lay(lane, 0, 60), OUT);
                t.due(x.lay(lane, 0, MAX), OUT);
                t.row(x, lane, 0, 1, 1);
                x.mount(lane, 60);
                t.due(x.lay(lane, 0, 61), OUT);
                t.due(x.count(5 + lane), 4);
                t.due(x.count(lane), 0);
            }
        }, () -> new Model() {
            @Override
            public int lay(int lane, int row, int from) {
                return from == 4 ? 0 : super.lay(lane, row, from);
            }
        }, () -> new Model() {
            @Override
            public int lay(int lane, int row, int from) {
                return from == MAX ? 0 : super.lay(lane, row, from);
            }
        }, () -> new Model() {
            @Override
            public int lay(int lane, int row, int from) {
                return super.lay(lane, row, from == 61 ? 60 : from);
            }
        });
    }

    private void justHowMany() {
        sentence(OUTSIDE, "just how many there are: none is laid, and it is no refusal", t -> {
            for (int lane : LANES) {
                Bench x = t.bench(lane, 1, 1, 1);
                x.rule(lane, 1, 2);
                x.lay(lane, 0, 0);
                t.due(x.lay(lane, 0, 3), 0);
                t.row(x, lane, 0, 1, 1);
                x.mount(lane, 60);
                t.due(x.lay(lane, 0, 60), 0);
                t.row(x, lane, 0, 1, 1);
                t.refusals(x, 0, 0, 0, 0, 0, 0, 0, 0, 0, 0);
            }
        }, () -> new Model() {
            @Override
            public int lay(int lane, int row, int from) {
                int answer = super.lay(lane, row, from);
                return answer == 0 && from == 3 ? OUT : answer;
            }
        }, () -> new Model() {
            @Override
            public int lay(int lane, int row, int from) {
                return from == 60 ? OUT : super.lay(lane, row, from);
            }
        }, () -> new Model() {
            @Override
            public int lay(int lane, int row, int from) {
                int answer = super.lay(lane, row, from);
                if (answer == 0 && from == 3) sheets.get(name(lane)).get(row).set(0, BigInteger.ZERO);
                return answer;
            }
        });
    }

    private void noCells() {
        sentence(OUTSIDE, "0 cells: from 0 none is laid, from 1 there is no cell", t -> {
            for (int lane : LANES) {
                Bench x = t.bench(lane, 1, 1);
                x.rule(lane, 1, 2);
                x.lay(lane, 0, 0);
                x.mount(lane, 0);
                t.due(x.lay(lane, 0, 0), 0);
                t.due(x.lay(lane, 0, 1), OUT);
                t.due(x.lay(lane, 0, -1), OUT);
                t.row(x, lane, 0, 1, 1);
                t.due(x.count(lane), 0);
                t.due(x.count(5 + lane), 2);
            }
        }, () -> new Model() {
            @Override
            public int lay(int lane, int row, int from) {
                int answer = super.lay(lane, row, from);
                return answer == 0 ? OUT : answer;
            }
        }, () -> new Model() {
            @Override
            public int lay(int lane, int row, int from) {
                int answer = super.lay(lane, row, from);
                return answer == 0 ? OFF : answer;
            }
        });
    }
}
