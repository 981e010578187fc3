/** A bench for piano rolls: five lanes of cells, each with a sheet of its own, and a head that plays them. */
public final class RollBench {
    /** There is no such lane. */
    public static final int NO_LANE = -1000001;
    /** There is no such way. */
    public static final int NO_WAY = -1000002;
    /** More than there may be. */
    public static final int GREAT = -1000003;
    /** A number below 0 where things are made. */
    public static final int NEGATIVE = -1000004;
    /** The lane is off. */
    public static final int OFF = -1000005;
    /** It has no such cell. */
    public static final int OUT = -1000006;
    /** The lane has no sheet. */
    public static final int NO_SHEET = -1000007;
    /** The sheet has no such row. */
    public static final int NO_ROW = -1000008;
    /** The row has no such column. */
    public static final int NO_COLUMN = -1000009;

    private static final int LANES = 5;
    private static final int SIGNS = 0;
    private static final int TICKS = 1;
    private static final int FORCE = 2;
    private static final int PEDAL = 3;
    private static final int PITCH = 4;

    private static final int MOST_CELLS = 60;
    private static final int MOST_ROWS = 16;
    private static final int MOST_COLUMNS = 16;
    private static final int MOST_STEPS = 200;
    private static final long MOST_FORCE = 8000;

    private static final int WAYS = 4;
    private static final int WAY_ADD = 0;
    private static final int WAY_SUBTRACT = 1;
    private static final int WAY_MULTIPLY = 2;

    private static final int SIGN_REST = 46;
    private static final int SIGN_NOTE = 110;
    private static final int SIGN_SHIFT = 116;
    private static final int SIGN_MARK = 124;
    private static final int SIGN_REPEAT = 114;
    private static final int SIGN_WANE = 119;

    private final Lane[] lanes;
    private int head;
    private int clock;
    private int shift;
    private int mark;
    private int notes;
    private int sound;
    private int blanks;

    public RollBench() {
        lanes = new Lane[LANES];
        for (int lane = 0; lane < LANES; lane++) {
            lanes[lane] = new Lane();
        }
    }

    public int mount(int lane, int n) {
        if (!isLane(lane)) {
            return NO_LANE;
        }
        if (n > MOST_CELLS) {
            return GREAT;
        }
        if (n < 0) {
            return NEGATIVE;
        }
        lanes[lane].renew(n);
        return n;
    }

    public int strip(int lane) {
        if (!isLane(lane)) {
            return NO_LANE;
        }
        Lane asked = lanes[lane];
        if (asked.isOff()) {
            return asked.refuseOff();
        }
        int had = asked.length;
        asked.turnOff();
        return had;
    }

    public int size(int lane) {
        if (!isLane(lane)) {
            return NO_LANE;
        }
        Lane asked = lanes[lane];
        if (asked.isOff()) {
            return asked.refuseOff();
        }
        return asked.length;
    }

    public int cell(int lane, int i) {
        if (!isLane(lane)) {
            return NO_LANE;
        }
        Lane asked = lanes[lane];
        if (asked.isOff()) {
            return asked.refuseOff();
        }
        if (!asked.hasCell(i)) {
            return asked.refuseOut();
        }
        return asked.cells[i];
    }

    public int put(int lane, int i, int v) {
        if (!isLane(lane)) {
            return NO_LANE;
        }
        Lane asked = lanes[lane];
        if (asked.isOff()) {
            return asked.refuseOff();
        }
        if (!asked.hasCell(i)) {
            return asked.refuseOut();
        }
        asked.cells[i] = stored(lane, v);
        return asked.cells[i];
    }

    public int change(int lane, int way, int i, int v) {
        if (!isLane(lane)) {
            return NO_LANE;
        }
        if (way < 0 || way >= WAYS) {
            return NO_WAY;
        }
        Lane asked = lanes[lane];
        if (asked.isOff()) {
            return asked.refuseOff();
        }
        if (!asked.hasCell(i)) {
            return asked.refuseOut();
        }
        asked.cells[i] = changed(lane, way, asked.cells[i], v);
        return asked.cells[i];
    }

    public int rule(int lane, int rows, int columns) {
        if (!isLane(lane)) {
            return NO_LANE;
        }
        if (rows > MOST_ROWS || columns > MOST_COLUMNS) {
            return GREAT;
        }
        if (rows < 0 || columns < 0) {
            return NEGATIVE;
        }
        lanes[lane].sheet.renew(rows, columns);
        return rows * columns;
    }

    public int lay(int lane, int row, int from) {
        if (!isLane(lane)) {
            return NO_LANE;
        }
        Lane asked = lanes[lane];
        if (asked.sheet.isNone()) {
            return NO_SHEET;
        }
        if (!asked.sheet.hasRow(row)) {
            return NO_ROW;
        }
        if (asked.isOff()) {
            return asked.refuseOff();
        }
        if (from < 0 || from > asked.length) {
            return asked.refuseOut();
        }
        return asked.layInto(row, from);
    }

    public int at(int lane, int row, int column) {
        if (!isLane(lane)) {
            return NO_LANE;
        }
        Sheet sheet = lanes[lane].sheet;
        if (sheet.isNone()) {
            return NO_SHEET;
        }
        if (!sheet.hasRow(row)) {
            return NO_ROW;
        }
        if (!sheet.hasColumn(column)) {
            return NO_COLUMN;
        }
        return sheet.numberIn(row, column);
    }

    public int head(int h) {
        if (h > MOST_CELLS) {
            return GREAT;
        }
        if (h < 0) {
            return NEGATIVE;
        }
        int was = head;
        head = h;
        return was;
    }

    public int play(int n) {
        if (n < 0) {
            return NEGATIVE;
        }
        if (n > MOST_STEPS) {
            return GREAT;
        }
        Lane signs = lanes[SIGNS];
        int done = 0;
        while (done < n && signs.hasCell(head)) {
            step(signs.cells[head]);
            done++;
        }
        return done;
    }

    public int count(int what) {
        if (isLane(what)) {
            return lanes[what].offRefusals;
        }
        if (what >= LANES && what < 2 * LANES) {
            return lanes[what - LANES].outRefusals;
        }
        switch (what) {
            case 10:
                return head;
            case 11:
                return clock;
            case 12:
                return shift;
            case 13:
                return mark;
            case 14:
                return notes;
            case 15:
                return sound;
            case 16:
                return blanks;
            default:
                return 0;
        }
    }

    private static boolean isLane(int lane) {
        return lane >= 0 && lane < LANES;
    }

    /** What a cell of the lane has once the number is stored in it. */
    private static int stored(int lane, long number) {
        switch (lane) {
            case SIGNS:
                return (int) (number & 0xFFFF);
            case TICKS:
                return (short) number;
            case PITCH:
                return (byte) number;
            case PEDAL:
                return (int) (number & 1);
            default:
                return (int) Math.max(-MOST_FORCE, Math.min(MOST_FORCE, number));
        }
    }

    private static int changed(int lane, int way, int c, int v) {
        if (lane == PEDAL) {
            return changedPedal(way, c, v & 1);
        }
        // A long holds every result exactly, as FORCE needs it; the other lanes keep
        // lowest bits alone, and these are the same as if it had gone round in 32 bits.
        return stored(lane, reckoned(way, c, v));
    }

    private static int changedPedal(int way, int c, int odd) {
        switch (way) {
            case WAY_ADD:
                return c | odd;
            case WAY_SUBTRACT:
                return c & odd;
            case WAY_MULTIPLY:
                return c ^ odd;
            default:
                return 1 - c;
        }
    }

    private static long reckoned(int way, long c, long v) {
        switch (way) {
            case WAY_ADD:
                return c + v;
            case WAY_SUBTRACT:
                return c - v;
            case WAY_MULTIPLY:
                return c * v;
            default:
                return c + 1;
        }
    }

    private void step(int sign) {
        switch (sign) {
            case SIGN_REST:
                clock += told(TICKS, 1);
                break;
            case SIGN_NOTE:
                playNote();
                break;
            case SIGN_SHIFT:
                shift = told(PITCH, 0);
                break;
            case SIGN_MARK:
                mark = head;
                break;
            case SIGN_REPEAT:
                if (lowered(TICKS)) {
                    head = mark;
                    return;
                }
                break;
            case SIGN_WANE:
                lowered(FORCE);
                break;
            default:
                blanks++;
                break;
        }
        head++;
    }

    private void playNote() {
        int t = told(TICKS, 1);
        if (told(PEDAL, 0) == 1) {
            t = 2 * t;
        }
        clock += t;
        notes++;
        sound += t * (told(PITCH, 0) + shift);
        sound += told(FORCE, 8);
    }

    /** What the lane tells at the head; asking so is never counted as a refusal. */
    private int told(int lane, int otherwise) {
        Lane asked = lanes[lane];
        return asked.hasCell(head) ? asked.cells[head] : otherwise;
    }

    /** Takes 1 from the lane's cell at the head if that is more than 0, and says whether it was. */
    private boolean lowered(int lane) {
        Lane asked = lanes[lane];
        if (!asked.hasCell(head) || asked.cells[head] <= 0) {
            return false;
        }
        asked.cells[head]--;
        return true;
    }

    /** A lane: its cells are made once, as many as there may be, and of these the first are in use. */
    private static final class Lane {
        /** Below every length, so that a lane that is off has no cell at all. */
        private static final int LENGTH_OFF = -1;

        final int[] cells;
        final Sheet sheet;
        int length;
        int offRefusals;
        int outRefusals;

        Lane() {
            cells = new int[MOST_CELLS];
            sheet = new Sheet();
            length = LENGTH_OFF;
        }

        boolean isOff() {
            return length == LENGTH_OFF;
        }

        boolean hasCell(int i) {
            return i >= 0 && i < length;
        }

        void renew(int n) {
            for (int i = 0; i < n; i++) {
                cells[i] = 0;
            }
            length = n;
        }

        void turnOff() {
            length = LENGTH_OFF;
        }

        int refuseOff() {
            offRefusals++;
            return OFF;
        }

        int refuseOut() {
            outRefusals++;
            return OUT;
        }

        int layInto(int row, int from) {
            int laid = Math.min(length - from, sheet.columns);
            for (int column = 0; column < laid; column++) {
                sheet.write(row, column, cells[from + column]);
            }
            return laid;
        }
    }

    /** A lane's sheet: made once as large as it may be, and ruled anew within that. */
    private static final class Sheet {
        /** Below every number of rows, so that a sheet that is none has no row at all. */
        private static final int ROWS_NONE = -1;

        final int[] numbers;
        int rows;
        int columns;

        Sheet() {
            numbers = new int[MOST_ROWS * MOST_COLUMNS];
            rows = ROWS_NONE;
        }

        boolean isNone() {
            return rows == ROWS_NONE;
        }

        boolean hasRow(int row) {
            return row >= 0 && row < rows;
        }

        boolean hasColumn(int column) {
            return column >= 0 && column < columns;
        }

        int numberIn(int row, int column) {
            return numbers[placeOf(row, column)];
        }

        void write(int row, int column, int number) {
            numbers[placeOf(row, column)] = number;
        }

        void renew(int newRows, int newColumns) {
            for (int place = 0; place < numbers.length; place++) {
                numbers[place] = 0;
            }
            rows = newRows;
            columns = newColumns;
        }

        /** Rows lie apart by the greatest width, so that a sheet of any width fits the one array. */
        private static int placeOf(int row, int column) {
            return row * MOST_COLUMNS + column;
        }
    }
}
