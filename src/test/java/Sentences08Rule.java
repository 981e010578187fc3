import java.math.BigInteger;

final class Sentences08Rule extends Sentences {
    private static final String RULES =
        "A lane's sheet has so many rows and columns of 0 from now on: rows times columns.";
    private static final String TOO_GREAT = "GREAT: rows or columns are above 16;";
    private static final String BELOW = "NEGATIVE: one of them is below 0 (the sheet stays).";

    Sentences08Rule() {
        super("Promise 8: rule");
        empty();
        full();
        thinSheets();
        hadLarger();
        hadSmaller();
        hadTheSame();
        otherLanesStay();
        cellsStay();
        noLane("NO_LANE;", (x, lane) -> x.rule(lane, 2, 2));
        greatRows();
        greatColumns();
        negativeRows();
        negativeColumns();
        theSheetStays();
    }

    private void empty() {
        sentence(RULES, "0 rows, 0 columns, or both", t -> {
            for (int lane : LANES) {
                Bench x = t.bench();
                t.due(x.rule(lane, 0, 0), 0);
                t.due(x.at(lane, 0, 0), NO_ROW);
                t.due(x.rule(lane, 0, 16), 0);
                t.due(x.at(lane, 0, 0), NO_ROW);
                t.due(x.rule(lane, 16, 0), 0);
                t.due(x.at(lane, 0, 0), NO_COLUMN);
                t.due(x.at(lane, 15, 0), NO_COLUMN);
                t.due(x.at(lane, 16, 0), NO_ROW);
            }
        }, () -> new Model() {
            @Override
            public int rule(int lane, int rows, int columns) {
                return rows == 0 ? NEGATIVE : super.rule(lane, rows, columns);
            }
        }, () -> new Model() {
            @Override
            public int rule(int lane, int rows, int columns) {
                return super.rule(lane, columns == 0 ? 0 : rows, columns);
            }
        });
    }

    private void full() {
        sentence(RULES, "16 rows and 16 columns", t -> {
            Bench x = t.bench();
            t.due(x.rule(PITCH, 16, 16), 256);
            for (int row = 0; row < 16; row++) {
                for (int column = 0; column < 16; column++) {
                    t.due(x.at(PITCH, row, column), 0);
                }
            }
            t.due(x.at(PITCH, 16, 0), NO_ROW);
            t.due(x.at(PITCH, 0, 16), NO_COLUMN);
        }, () -> new Model() {
            @Override
            public int rule(int lane, int rows, int columns) {
                return rows == 16 ? GREAT : super.rule(lane, rows, columns);
            }
        }, () -> new Model() {
            @Override
            public int rule(int lane, int rows, int columns) {
                return columns == 16 ? GREAT : super.rule(lane, rows, columns);
            }
        }, () -> new Model() {
            @Override
            public int rule(int lane, int rows, int columns) {
                int answer = super.rule(lane, rows, columns);
                return answer == 256 ? 255 : answer;
            }
        });
    }

    private void thinSheets() {
        sentence(RULES, "one row of 16, 16 rows of one, rows and columns not changed about", t -> {
            for (int lane : LANES) {
                Bench x = t.bench();
                t.due(x.rule(lane, 1, 16), 16);
                t.due(x.at(lane, 0, 15), 0);
                t.due(x.at(lane, 1, 0), NO_ROW);
                t.due(x.rule(lane, 16, 1), 16);
                t.due(x.at(lane, 15, 0), 0);
                t.due(x.at(lane, 0, 1), NO_COLUMN);
                t.due(x.rule(lane, 2, 3), 6);
                t.due(x.at(lane, 1, 2), 0);
                t.due(x.at(lane, 2, 1), NO_ROW);
                t.due(x.at(lane, 1, 3), NO_COLUMN);
            }
        }, () -> new Model() {
            @Override
            public int rule(int lane, int rows, int columns) {
                return super.rule(lane, columns, rows);
            }
        }, () -> new Model() {
            @Override
            public int rule(int lane, int rows, int columns) {
                int answer = super.rule(lane, rows, columns);
                return answer == 6 ? 5 : answer;
            }
        });
    }

    private void hadLarger() {
        sentence(RULES, "from now on: there was a larger sheet, and there is again", t -> {
            for (int lane : LANES) {
                Bench x = laid(t, lane);
                t.due(x.rule(lane, 1, 1), 1);
                t.row(x, lane, 0, 0);
                t.due(x.at(lane, 1, 0), NO_ROW);
                t.due(x.rule(lane, 2, 3), 6);
                t.row(x, lane, 0, 0, 0, 0);
                t.row(x, lane, 1, 0, 0, 0);
            }
        }, this::clearsNothing, () -> new Model() {
            @Override
            public int rule(int lane, int rows, int columns) {
                boolean larger = sheets.containsKey(name(lane)) && sheets.get(name(lane)).size() > rows;
                return larger ? rows * columns : super.rule(lane, rows, columns);
            }
        });
    }

    private void hadSmaller() {
        sentence(RULES, "from now on: there was a smaller sheet", t -> {
            for (int lane : LANES) {
                Bench x = laid(t, lane);
                t.due(x.rule(lane, 3, 4), 12);
                for (int row = 0; row < 3; row++) {
                    t.row(x, lane, row, 0, 0, 0, 0);
                }
                t.due(x.at(lane, 3, 0), NO_ROW);
            }
        }, this::clearsNothing);
    }

    private void hadTheSame() {
        sentence(RULES, "of 0 from now on: there was a sheet just as large", t -> {
            for (int lane : LANES) {
                Bench x = laid(t, lane);
                t.due(x.rule(lane, 2, 3), 6);
                t.row(x, lane, 0, 0, 0, 0);
                t.row(x, lane, 1, 0, 0, 0);
            }
        }, this::clearsNothing, () -> new Model() {
            @Override
            public int rule(int lane, int rows, int columns) {
                boolean same = sheets.containsKey(name(lane)) && sheets.get(name(lane)).size() == rows
                    && columnsOf.get(name(lane)) == columns;
                return same ? rows * columns : super.rule(lane, rows, columns);
            }
        });
    }

    private void otherLanesStay() {
        sentence(RULES, "a lane's sheet, and no other's", t -> {
            for (int lane : LANES) {
                Bench x = t.bench();
                for (int other : LANES) {
                    t.write(x, other, 1, 1);
                    x.rule(other, 1, 2);
                    x.lay(other, 0, 0);
                }
                t.due(x.rule(lane, 2, 1), 2);
                for (int other : LANES) {
                    if (other != lane) {
                        t.row(x, other, 0, 1, 1);
                        t.due(x.at(other, 1, 0), NO_ROW);
                    }
                }
            }
        }, () -> new Model() {
            @Override
            public int rule(int lane, int rows, int columns) {
                if (lane == TICKS && rows == 2) super.rule(FORCE, rows, columns);
                return super.rule(lane, rows, columns);
            }
        });
    }

    private void cellsStay() {
        sentence(RULES, "its sheet, not its cells; off it stays off", t -> {
            for (int lane : LANES) {
                Bench x = t.bench(lane, 1, 0, 1);
                t.due(x.rule(lane, 1, 3), 3);
                t.cells(x, lane, 1, 0, 1);
                x.strip(lane);
                t.due(x.rule(lane, 2, 3), 6);
                t.due(x.size(lane), OFF);
            }
        }, () -> new Model() {
            @Override
            public int rule(int lane, int rows, int columns) {
                int answer = super.rule(lane, rows, columns);
                if (answer == 3) cells.put(name(lane), zeros(3));
                return answer;
            }
        }, () -> new Model() {
            @Override
            public int rule(int lane, int rows, int columns) {
                int answer = super.rule(lane, rows, columns);
                if (answer == 6) cells.put(name(lane), zeros(3));
                return answer;
            }
        });
    }

    private void greatRows() {
        sentence(TOO_GREAT, "17 rows, and the greatest number", t -> {
            for (int lane : LANES) {
                Bench x = t.bench();
                for (int columns : new int[] {0, 1, 16}) {
                    t.due(x.rule(lane, 17, columns), GREAT);
                    t.due(x.rule(lane, MAX, columns), GREAT);
                }
                t.due(x.at(lane, 0, 0), NO_SHEET);
                t.due(x.rule(lane, 16, 1), 16);
                t.due(x.rule(lane, 17, 1), GREAT);
                t.due(x.at(lane, 15, 0), 0);
                t.due(x.at(lane, 16, 0), NO_ROW);
            }
        }, () -> new Model() {
            @Override
            public int rule(int lane, int rows, int columns) {
                return super.rule(lane, rows == 17 ? 16 : rows, columns);
            }
        }, () -> new Model() {
            @Override
            public int rule(int lane, int rows, int columns) {
                return rows == MAX && columns == 0 ? 0 : super.rule(lane, rows, columns);
            }
        });
    }

    private void greatColumns() {
        sentence(TOO_GREAT, "17 columns, and the greatest number", t -> {
            for (int lane : LANES) {
                Bench x = t.bench();
                for (int rows : new int[] {0, 1, 16}) {
                    t.due(x.rule(lane, rows, 17), GREAT);
                    t.due(x.rule(lane, rows, MAX), GREAT);
                }
                t.due(x.rule(lane, 17, 17), GREAT);
                t.due(x.at(lane, 0, 0), NO_SHEET);
                t.due(x.rule(lane, 1, 16), 16);
                t.due(x.rule(lane, 1, 17), GREAT);
                t.due(x.at(lane, 0, 15), 0);
                t.due(x.at(lane, 0, 16), NO_COLUMN);
            }
        }, () -> new Model() {
            @Override
            public int rule(int lane, int rows, int columns) {
                return super.rule(lane, rows, columns == 17 ? 16 : columns);
            }
        }, () -> new Model() {
            @Override
            public int rule(int lane, int rows, int columns) {
                return rows == 0 && columns == MAX ? 0 : super.rule(lane, rows, columns);
            }
        });
    }

    private void negativeRows() {
        sentence(BELOW, "-1 rows, and the least number", t -> {
            for (int lane : LANES) {
                Bench x = t.bench();
                for (int columns : new int[] {-1, 0, 16}) {
                    t.due(x.rule(lane, -1, columns), NEGATIVE);
                    t.due(x.rule(lane, MIN, columns), NEGATIVE);
                }
                t.due(x.at(lane, 0, 0), NO_SHEET);
            }
        }, () -> new Model() {
            @Override
            public int rule(int lane, int rows, int columns) {
                return super.rule(lane, rows == -1 ? 0 : rows, columns);
            }
        }, () -> new Model() {
            @Override
            public int rule(int lane, int rows, int columns) {
                return rows < 0 && columns == 0 ? 0 : super.rule(lane, rows, columns);
            }
        });
    }

    private void negativeColumns() {
        sentence(BELOW, "-1 columns, and the least number", t -> {
            for (int lane : LANES) {
                Bench x = t.bench();
                for (int rows : new int[] {-1, 0, 16}) {
                    t.due(x.rule(lane, rows, -1), NEGATIVE);
                    t.due(x.rule(lane, rows, MIN), NEGATIVE);
                }
                t.due(x.at(lane, 0, 0), NO_SHEET);
            }
        }, () -> new Model() {
            @Override
            public int rule(int lane, int rows, int columns) {
                return super.rule(lane, rows, columns == -1 ? 0 : columns);
            }
        }, () -> new Model() {
            @Override
            public int rule(int lane, int rows, int columns) {
                return rows == 0 && columns < 0 ? 0 : super.rule(lane, rows, columns);
            }
        });
    }

    private void theSheetStays() {
        sentence(BELOW, "the sheet stays, with its numbers and its size", t -> {
            for (int lane : LANES) {
                Bench x = laid(t, lane);
                t.due(x.rule(lane, -1, 3), NEGATIVE);
                t.due(x.rule(lane, 2, -1), NEGATIVE);
                t.due(x.rule(lane, MIN, MIN), NEGATIVE);
                t.due(x.rule(lane, 17, 3), GREAT);
                t.due(x.rule(lane, 2, 17), GREAT);
                t.row(x, lane, 0, 0, 1, 1);
                t.row(x, lane, 1, 1, 1, 0);
                t.due(x.at(lane, 2, 0), NO_ROW);
            }
        }, () -> new Model() {
            @Override
            public int rule(int lane, int rows, int columns) {
                int answer = super.rule(lane, rows, columns);
                if (answer == NEGATIVE && rows == 2) super.rule(lane, 2, 3);
                return answer;
            }
        }, () -> new Model() {
            @Override
            public int rule(int lane, int rows, int columns) {
                int answer = super.rule(lane, rows, columns);
                if (answer == NEGATIVE) sheets.remove(name(lane));
                return answer;
            }
        }, () -> new Model() {
            @Override
            public int rule(int lane, int rows, int columns) {
                int answer = super.rule(lane, rows, columns);
                if (answer == GREAT && columns == 17) columnsOf.put(name(lane), 2);
                return answer;
            }
        });
    }

    /** A bench on which the lane has 0 1 1 0 in its cells and a sheet of the rows 0 1 1 and 1 1 0. */
    private static Bench laid(Trial t, int lane) {
        Bench x = t.bench(lane, 0, 1, 1, 0);
        x.rule(lane, 2, 3);
        x.lay(lane, 0, 0);
        x.lay(lane, 1, 1);
        return x;
    }

    /** A bench whose sheets keep what they had where they had it. */
    private Bench clearsNothing() {
        return new Model() {
            private final BigInteger[][] kept = new BigInteger[16][16];

            @Override
            public int rule(int lane, int rows, int columns) {
                keep(lane);
                int answer = super.rule(lane, rows, columns);
                for (int place = 0; place < rows * columns; place++) {
                    BigInteger number = kept[place / columns][place % columns];
                    if (number != null) sheets.get(name(lane)).get(place / columns).set(place % columns, number);
                }
                return answer;
            }

            private void keep(int lane) {
                if (!sheets.containsKey(name(lane))) return;
                for (int row = 0; row < sheets.get(name(lane)).size(); row++) {
                    for (int column = 0; column < columnsOf.get(name(lane)); column++) {
                        kept[row][column] = sheets.get(name(lane)).get(row).get(column);
                    }
                }
            }
        };
    }
}
