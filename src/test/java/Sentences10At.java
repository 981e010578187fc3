final class Sentences10At extends Sentences {
    Sentences10At() {
        super("Promise 10: at");
        corners();
        laneOff();
        noLane("NO_LANE;", (x, lane) -> x.at(lane, 0, 0));
        noSheet();
        noRow();
        noRowOfNone();
        noColumn();
        noColumnOfNone();
    }

    private void corners() {
        sentence("The number in a row and column of a lane's sheet.", "the corners of 1 by 1, 2 by 3 and 16 by 16", t -> {
            for (int lane : LANES) {
                Bench x = t.bench(lane, 1, 0, 1);
                x.rule(lane, 1, 1);
                x.lay(lane, 0, 0);
                t.due(x.at(lane, 0, 0), 1);
                x.rule(lane, 2, 3);
                x.lay(lane, 1, 0);
                t.due(x.at(lane, 0, 0), 0);
                t.due(x.at(lane, 0, 2), 0);
                t.due(x.at(lane, 1, 0), 1);
                t.due(x.at(lane, 1, 1), 0);
                t.due(x.at(lane, 1, 2), 1);
                x.mount(lane, 16);
                x.put(lane, 15, 1);
                x.rule(lane, 16, 16);
                x.lay(lane, 15, 0);
                t.due(x.at(lane, 0, 15), 0);
                t.due(x.at(lane, 15, 0), 0);
                t.due(x.at(lane, 15, 15), 1);
            }
        }, () -> new Model() {
            @Override
            public int at(int lane, int row, int column) {
                return row == 15 && column == 15 ? NO_COLUMN : super.at(lane, row, column);
            }
        }, () -> new Model() {
            @Override
            public int at(int lane, int row, int column) {
                return super.at(lane, column, row);
            }
        }, () -> new Model() {
            @Override
            public int at(int lane, int row, int column) {
                return super.at(lane, row == 1 ? 0 : row, column);
            }
        });
    }

    private void laneOff() {
        sentence("The number in a row and column of a lane's sheet.", "of a lane that is off: no refusal", t -> {
            for (int lane : LANES) {
                Bench x = t.bench(lane, 1, 1);
                x.rule(lane, 1, 2);
                x.lay(lane, 0, 0);
                x.strip(lane);
                t.row(x, lane, 0, 1, 1);
                t.refusals(x, 0, 0, 0, 0, 0, 0, 0, 0, 0, 0);
            }
        }, () -> new Model() {
            @Override
            public int at(int lane, int row, int column) {
                return !noLane(lane) && off(lane) ? OFF : super.at(lane, row, column);
            }
        }, () -> new Model() {
            @Override
            public int at(int lane, int row, int column) {
                if (!noLane(lane)) off(lane);
                return super.at(lane, row, column);
            }
        });
    }

    private void noSheet() {
        sentence("NO_SHEET;", "none at first, whatever row and column", t -> {
            for (int lane : LANES) {
                Bench x = t.bench();
                for (int each : new int[] {-1, 0, 15, 16, MIN, MAX}) {
                    t.due(x.at(lane, each, 0), NO_SHEET);
                    t.due(x.at(lane, 0, each), NO_SHEET);
                }
                x.mount(lane, 2);
                x.rule((lane + 1) % 5, 1, 1);
                t.due(x.at(lane, 0, 0), NO_SHEET);
                t.refusals(x, 0, 0, 0, 0, 0, 0, 0, 0, 0, 0);
            }
        }, () -> new Model() {
            @Override
            public int at(int lane, int row, int column) {
                int answer = super.at(lane, row, column);
                return answer == NO_SHEET && row == 0 && column == 0 ? 0 : answer;
            }
        }, () -> new Model() {
            @Override
            public int at(int lane, int row, int column) {
                int answer = super.at(lane, row, column);
                return answer == NO_SHEET && row < 0 ? NO_ROW : answer;
            }
        });
    }

    private void noRow() {
        sentence("NO_ROW;", "-1, one behind the last, 16, the least and the greatest number", t -> {
            for (int lane : LANES) {
                Bench x = t.bench();
                x.rule(lane, 2, 3);
                for (int row : new int[] {-1, 2, 3, 15, 16, MIN, MAX}) {
                    t.due(x.at(lane, row, 0), NO_ROW);
                    t.due(x.at(lane, row, 3), NO_ROW);
                }
                x.rule(lane, 16, 16);
                t.due(x.at(lane, 16, 0), NO_ROW);
                t.due(x.at(lane, -1, 15), NO_ROW);
                t.refusals(x, 0, 0, 0, 0, 0, 0, 0, 0, 0, 0);
            }
        }, () -> new Model() {
            @Override
            public int at(int lane, int row, int column) {
                return super.at(lane, row == -1 ? 0 : row, column);
            }
        }, () -> new Model() {
            @Override
            public int at(int lane, int row, int column) {
                return super.at(lane, row == 2 ? 1 : row, column);
            }
        }, () -> new Model() {
            @Override
            public int at(int lane, int row, int column) {
                return super.at(lane, row == 16 ? 15 : row, column);
            }
        });
    }

    private void noRowOfNone() {
        sentence("NO_ROW;", "row 0 of 0 rows, and a row that the sheet had before it was ruled anew", t -> {
            for (int lane : LANES) {
                Bench x = t.bench();
                x.rule(lane, 0, 16);
                t.due(x.at(lane, 0, 0), NO_ROW);
                x.rule(lane, 3, 2);
                x.rule(lane, 1, 2);
                t.due(x.at(lane, 1, 0), NO_ROW);
                t.due(x.at(lane, 2, 1), NO_ROW);
                t.due(x.at(lane, 0, 1), 0);
            }
        }, () -> new Model() {
            @Override
            public int at(int lane, int row, int column) {
                boolean none = !noLane(lane) && sheets.containsKey(name(lane)) && sheets.get(name(lane)).isEmpty();
                return none ? NO_SHEET : super.at(lane, row, column);
            }
        }, () -> new Model() {
            private int most;

            @Override
            public int rule(int lane, int rows, int columns) {
                most = Math.max(most, rows);
                return super.rule(lane, rows, columns);
            }

            @Override
            public int at(int lane, int row, int column) {
                int answer = super.at(lane, row, column);
                return answer == NO_ROW && row > 0 && row < most ? 0 : answer;
            }
        });
    }

    private void noColumn() {
        sentence("NO_COLUMN.", "-1, one behind the last, 16, the least and the greatest number", t -> {
            for (int lane : LANES) {
                Bench x = t.bench();
                x.rule(lane, 2, 3);
                for (int column : new int[] {-1, 3, 4, 15, 16, MIN, MAX}) {
                    t.due(x.at(lane, 0, column), NO_COLUMN);
                    t.due(x.at(lane, 1, column), NO_COLUMN);
                }
                x.rule(lane, 16, 16);
                t.due(x.at(lane, 0, 16), NO_COLUMN);
                t.due(x.at(lane, 15, -1), NO_COLUMN);
                t.refusals(x, 0, 0, 0, 0, 0, 0, 0, 0, 0, 0);
            }
        }, () -> new Model() {
            @Override
            public int at(int lane, int row, int column) {
                return super.at(lane, row, column == -1 ? 0 : column);
            }
        }, () -> new Model() {
            @Override
            public int at(int lane, int row, int column) {
                return super.at(lane, row, column == 3 ? 2 : column);
            }
        }, () -> new Model() {
            @Override
            public int at(int lane, int row, int column) {
                return super.at(lane, row, column == 16 ? 15 : column);
            }
        });
    }

    private void noColumnOfNone() {
        sentence("NO_COLUMN.", "column 0 of 0 columns, and one that the row had before it was ruled anew", t -> {
            for (int lane : LANES) {
                Bench x = t.bench();
                x.rule(lane, 16, 0);
                t.due(x.at(lane, 0, 0), NO_COLUMN);
                t.due(x.at(lane, 15, 0), NO_COLUMN);
                x.rule(lane, 2, 3);
                x.rule(lane, 2, 1);
                t.due(x.at(lane, 0, 1), NO_COLUMN);
                t.due(x.at(lane, 1, 2), NO_COLUMN);
                t.due(x.at(lane, 1, 0), 0);
            }
        }, () -> new Model() {
            @Override
            public int at(int lane, int row, int column) {
                int answer = super.at(lane, row, column);
                return answer == NO_COLUMN && columnsOf.get(name(lane)) == 0 ? NO_ROW : answer;
            }
        }, () -> new Model() {
            private int most;

            @Override
            public int rule(int lane, int rows, int columns) {
                most = Math.max(most, columns);
                return super.rule(lane, rows, columns);
            }

            @Override
            public int at(int lane, int row, int column) {
                int answer = super.at(lane, row, column);
                return answer == NO_COLUMN && column > 0 && column < most ? 0 : answer;
            }
        });
    }
}
