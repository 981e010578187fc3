import java.math.BigInteger;

/** "Terms": what a sheet is. */
final class SentencesOfSheets extends Sentences {
    private static final String A_SHEET =
        "A lane has a SHEET, none at first: a table of 0 .. 16 rows and 0 .. 16 columns of numbers as its cells;";
    private static final String STAYS = "a sheet stays when its lane is off.";

    SentencesOfSheets() {
        super("Terms");
        noneAtFirst();
        noRows();
        noColumns();
        neitherRowsNorColumns();
        full();
        numbersAsItsCells();
        oneForEachLane();
        staysWhenStripped();
        ruledWhenOff();
    }

    private void noneAtFirst() {
        sentence(A_SHEET, "none at first, with cells or without", t -> {
            for (int lane : LANES) {
                Bench x = t.bench();
                t.due(x.at(lane, 0, 0), NO_SHEET);
                x.mount(lane, 2);
                t.due(x.at(lane, 0, 0), NO_SHEET);
                t.due(x.lay(lane, 0, 0), NO_SHEET);
            }
        }, () -> new Model() {
            {
                super.rule(PITCH, 0, 0);
            }
        });
    }

    private void noRows() {
        sentence(A_SHEET, "0 rows: a sheet, and it has no row", t -> {
            for (int lane : LANES) {
                Bench x = t.bench(lane, 1);
                t.due(x.rule(lane, 0, 16), 0);
                t.due(x.at(lane, 0, 0), NO_ROW);
                t.due(x.lay(lane, 0, 0), NO_ROW);
            }
        }, () -> new Model() {
            @Override
            public int rule(int lane, int rows, int columns) {
                int answer = super.rule(lane, rows, columns);
                if (answer == 0 && rows == 0) sheets.remove(name(lane));
                return answer;
            }
        });
    }

    private void noColumns() {
        sentence(A_SHEET, "0 columns: a sheet, whose rows have no column", t -> {
            for (int lane : LANES) {
                Bench x = t.bench(lane, 1);
                t.due(x.rule(lane, 16, 0), 0);
                t.due(x.at(lane, 0, 0), NO_COLUMN);
                t.due(x.at(lane, 15, 0), NO_COLUMN);
                t.due(x.at(lane, 16, 0), NO_ROW);
                t.due(x.lay(lane, 15, 0), 0);
                t.due(x.lay(lane, 16, 0), NO_ROW);
            }
        }, () -> new Model() {
            @Override
            public int rule(int lane, int rows, int columns) {
                return super.rule(lane, columns == 0 ? 0 : rows, columns);
            }
        }, () -> new Model() {
            @Override
            public int rule(int lane, int rows, int columns) {
                int answer = super.rule(lane, rows, columns);
                if (answer == 0 && columns == 0) sheets.remove(name(lane));
                return answer;
            }
        });
    }

    private void neitherRowsNorColumns() {
        sentence(A_SHEET, "0 rows and 0 columns: a sheet nevertheless", t -> {
            for (int lane : LANES) {
                Bench x = t.bench();
                t.due(x.rule(lane, 0, 0), 0);
                t.due(x.at(lane, 0, 0), NO_ROW);
                t.due(x.lay(lane, 0, 0), NO_ROW);
            }
        }, () -> new Model() {
            @Override
            public int rule(int lane, int rows, int columns) {
                int answer = super.rule(lane, rows, columns);
                if (rows == 0 && columns == 0) sheets.remove(name(lane));
                return answer;
            }
        });
    }

    private void full() {
        sentence(A_SHEET, "16 rows of 16 columns, each a place of its own", t -> {
            Bench x = t.bench();
            t.due(x.rule(TICKS, 16, 16), 256);
            x.mount(TICKS, 31);
            for (int i = 0; i < 31; i++) {
                x.put(TICKS, i, 100 + i);
            }
            for (int row = 0; row < 16; row++) {
                t.due(x.lay(TICKS, row, row), Math.min(16, 31 - row));
            }
            for (int row = 0; row < 16; row++) {
                for (int column = 0; column < 16; column++) {
                    t.due(x.at(TICKS, row, column), 100 + row + column);
                }
            }
            t.due(x.at(TICKS, 15, 16), NO_COLUMN);
            t.due(x.at(TICKS, 16, 15), NO_ROW);
        }, () -> new Model() {
            @Override
            public int rule(int lane, int rows, int columns) {
                return rows == 16 ? GREAT : super.rule(lane, rows, columns);
            }
        }, () -> new Model() {
            @Override
            public int rule(int lane, int rows, int columns) {
                return columns == 16 ? GREAT : super.rule(lane, rows, columns);
            }
        }, () -> new Model() {
            @Override
            public int at(int lane, int row, int column) {
                return column == 0 && row > 0 ? super.at(lane, row - 1, 15) : super.at(lane, row, column);
            }
        });
    }

    private void numbersAsItsCells() {
        sentence(A_SHEET, "the least and the greatest number of each lane", t -> {
            int[][] extremes = {{0, 65535}, {-32768, 32767}, {-8000, 8000}, {0, 1}, {-128, 127}};
            Bench x = t.bench();
            for (int lane : LANES) {
                t.write(x, lane, extremes[lane]);
                x.rule(lane, 1, 2);
                t.due(x.lay(lane, 0, 0), 2);
                t.row(x, lane, 0, extremes[lane]);
            }
        }, () -> new Model() {
            @Override
            public int at(int lane, int row, int column) {
                int answer = super.at(lane, row, column);
                return answer > NO_LANE ? (short) answer : answer;
            }
        });
    }

    private void oneForEachLane() {
        sentence(A_SHEET, "a lane's sheet is no other lane's", t -> {
            Bench x = t.bench();
            for (int lane : LANES) {
                t.due(x.rule(lane, lane + 1, lane + 1), (lane + 1) * (lane + 1));
                t.write(x, lane, 0, 0, 0, 0, 0, 1);
                t.due(x.lay(lane, lane, 5 - lane), lane + 1);
            }
            for (int lane : LANES) {
                t.due(x.at(lane, lane, lane), 1);
                t.due(x.at(lane, lane + 1, 0), NO_ROW);
                t.due(x.at(lane, 0, lane + 1), NO_COLUMN);
            }
        }, () -> new Model() {
            @Override
            public int rule(int lane, int rows, int columns) {
                int answer = super.rule(lane, rows, columns);
                for (int other = 0; other < 5; other++) super.rule(other, rows, columns);
                return answer;
            }
        });
    }

    private void staysWhenStripped() {
        sentence(STAYS, "stripped, and mounted anew", t -> {
            for (int lane : LANES) {
                Bench x = t.bench(lane, 1, 0, 1);
                x.rule(lane, 2, 3);
                x.lay(lane, 1, 0);
                t.due(x.strip(lane), 3);
                t.row(x, lane, 0, 0, 0, 0);
                t.row(x, lane, 1, 1, 0, 1);
                t.due(x.at(lane, 2, 0), NO_ROW);
                x.mount(lane, 1);
                t.row(x, lane, 1, 1, 0, 1);
            }
        }, () -> new Model() {
            @Override
            public int strip(int lane) {
                int answer = super.strip(lane);
                if (answer >= 0) sheets.remove(name(lane));
                return answer;
            }
        }, () -> new Model() {
            @Override
            public int strip(int lane) {
                int answer = super.strip(lane);
                if (answer >= 0) sheets.get(name(lane)).get(1).set(2, BigInteger.ZERO);
                return answer;
            }
        }, () -> new Model() {
            @Override
            public int mount(int lane, int n) {
                sheets.remove(name(lane));
                return super.mount(lane, n);
            }
        });
    }

    private void ruledWhenOff() {
        sentence(STAYS, "ruled while the lane is off", t -> {
            for (int lane : LANES) {
                Bench x = t.bench();
                t.due(x.rule(lane, 1, 2), 2);
                t.row(x, lane, 0, 0, 0);
                t.due(x.count(lane), 0);
            }
        }, () -> new Model() {
            @Override
            public int rule(int lane, int rows, int columns) {
                return off(lane) ? OFF : super.rule(lane, rows, columns);
            }
        }, () -> new Model() {
            @Override
            public int at(int lane, int row, int column) {
                return off(lane) ? OFF : super.at(lane, row, column);
            }
        });
    }
}
