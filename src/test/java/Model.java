import java.math.BigInteger;
import java.util.ArrayList;
import java.util.HashMap;
import java.util.List;
import java.util.Map;

/**
 * The document written a second time, in other means than the class (lists, maps, BigInteger),
 * so that a slip in the one is not a slip in the other.
 */
final class Model {
    private static final List<String> NAMES = List.of("SIGNS", "TICKS", "FORCE", "PEDAL", "PITCH");
    private static final BigInteger ROUND = BigInteger.ONE.shiftLeft(32);

    private final Map<String, List<BigInteger>> cells = new HashMap<>();
    private final Map<String, List<List<BigInteger>>> sheets = new HashMap<>();
    private final Map<String, Integer> columnsOf = new HashMap<>();
    private final Map<String, Integer> offs = new HashMap<>();
    private final Map<String, Integer> outs = new HashMap<>();
    private BigInteger clock = BigInteger.ZERO;
    private BigInteger shift = BigInteger.ZERO;
    private BigInteger sound = BigInteger.ZERO;
    private int head;
    private int mark;
    private int notes;
    private int blanks;

    int mount(int lane, int n) {
        if (noLane(lane)) return RollBench.NO_LANE;
        if (n > 60) return RollBench.GREAT;
        if (n < 0) return RollBench.NEGATIVE;
        cells.put(NAMES.get(lane), zeros(n));
        return n;
    }

    int strip(int lane) {
        if (noLane(lane)) return RollBench.NO_LANE;
        if (off(lane)) return RollBench.OFF;
        return cells.remove(NAMES.get(lane)).size();
    }

    int size(int lane) {
        if (noLane(lane)) return RollBench.NO_LANE;
        if (off(lane)) return RollBench.OFF;
        return cells.get(NAMES.get(lane)).size();
    }

    int cell(int lane, int i) {
        if (noLane(lane)) return RollBench.NO_LANE;
        if (off(lane)) return RollBench.OFF;
        if (out(lane, i, size(lane) - 1)) return RollBench.OUT;
        return cells.get(NAMES.get(lane)).get(i).intValueExact();
    }

    int put(int lane, int i, int v) {
        int c = cell(lane, i);
        return c <= RollBench.NO_LANE ? c : store(lane, i, BigInteger.valueOf(v));
    }

    int change(int lane, int way, int i, int v) {
        if (noLane(lane)) return RollBench.NO_LANE;
        if (way != 0 && way != 1 && way != 2 && way != 3) return RollBench.NO_WAY;
        int c = cell(lane, i);
        if (c <= RollBench.NO_LANE) return c;
        if (NAMES.get(lane).equals("PEDAL")) return store(lane, i, pedal(way, c == 1, v % 2 != 0));
        BigInteger having = BigInteger.valueOf(c);
        BigInteger by = BigInteger.valueOf(v);
        BigInteger exact = way == 0 ? having.add(by)
            : way == 1 ? having.subtract(by)
            : way == 2 ? having.multiply(by)
            : having.add(BigInteger.ONE);
        return store(lane, i, NAMES.get(lane).equals("FORCE") ? exact : gone(exact));
    }

    int rule(int lane, int rows, int columns) {
        if (noLane(lane)) return RollBench.NO_LANE;
        if (rows > 16 || columns > 16) return RollBench.GREAT;
        if (rows < 0 || columns < 0) return RollBench.NEGATIVE;
        List<List<BigInteger>> sheet = new ArrayList<>();
        for (int row = 0; row < rows; row++) sheet.add(zeros(columns));
        sheets.put(NAMES.get(lane), sheet);
        columnsOf.put(NAMES.get(lane), columns);
        return rows * columns;
    }

    int lay(int lane, int row, int from) {
        if (noLane(lane)) return RollBench.NO_LANE;
        List<List<BigInteger>> sheet = sheets.get(NAMES.get(lane));
        if (sheet == null) return RollBench.NO_SHEET;
        if (row < 0 || row >= sheet.size()) return RollBench.NO_ROW;
        if (off(lane)) return RollBench.OFF;
        List<BigInteger> laid = cells.get(NAMES.get(lane));
        if (out(lane, from, laid.size())) return RollBench.OUT;
        int many = 0;
        while (from + many < laid.size() && many < columnsOf.get(NAMES.get(lane))) {
            sheet.get(row).set(many, laid.get(from + many));
            many++;
        }
        return many;
    }

    int at(int lane, int row, int column) {
        if (noLane(lane)) return RollBench.NO_LANE;
        List<List<BigInteger>> sheet = sheets.get(NAMES.get(lane));
        if (sheet == null) return RollBench.NO_SHEET;
        if (row < 0 || row >= sheet.size()) return RollBench.NO_ROW;
        if (column < 0 || column >= columnsOf.get(NAMES.get(lane))) return RollBench.NO_COLUMN;
        return sheet.get(row).get(column).intValueExact();
    }

    int head(int h) {
        if (h > 60) return RollBench.GREAT;
        if (h < 0) return RollBench.NEGATIVE;
        int was = head;
        head = h;
        return was;
    }

    int play(int n) {
        if (n < 0) return RollBench.NEGATIVE;
        if (n > 200) return RollBench.GREAT;
        int done = 0;
        while (done < n && tells("SIGNS")) {
            step(told("SIGNS", -1).intValueExact());
            done++;
        }
        return done;
    }

    int count(int what) {
        if (what >= 0 && what <= 4) return offs.getOrDefault(NAMES.get(what), 0);
        if (what >= 5 && what <= 9) return outs.getOrDefault(NAMES.get(what - 5), 0);
        if (what == 10) return head;
        if (what == 11) return gone(clock).intValueExact();
        if (what == 12) return shift.intValueExact();
        if (what == 13) return mark;
        if (what == 14) return notes;
        if (what == 15) return gone(sound).intValueExact();
        if (what == 16) return blanks;
        return 0;
    }

    private void step(int sign) {
        if (sign == 46) {
            clock = clock.add(told("TICKS", 1));
        } else if (sign == 110) {
            BigInteger t = told("TICKS", 1);
            if (told("PEDAL", 0).signum() == 1) t = t.add(t);
            clock = clock.add(t);
            notes++;
            sound = sound.add(t.multiply(told("PITCH", 0).add(shift))).add(told("FORCE", 8));
        } else if (sign == 116) {
            shift = told("PITCH", 0);
        } else if (sign == 124) {
            mark = head;
        } else if (sign == 114 && told("TICKS", 0).signum() > 0) {
            lessen("TICKS");
            head = mark;
            return;
        } else if (sign == 119 && told("FORCE", 0).signum() > 0) {
            lessen("FORCE");
        } else if (sign != 114 && sign != 119) {
            blanks++;
        }
        head++;
    }

    private boolean tells(String lane) {
        return cells.containsKey(lane) && head < cells.get(lane).size();
    }

    private BigInteger told(String lane, int otherwise) {
        return tells(lane) ? cells.get(lane).get(head) : BigInteger.valueOf(otherwise);
    }

    private void lessen(String lane) {
        cells.get(lane).set(head, cells.get(lane).get(head).subtract(BigInteger.ONE));
    }

    private static boolean noLane(int lane) {
        return lane < 0 || lane > 4;
    }

    private boolean off(int lane) {
        if (cells.containsKey(NAMES.get(lane))) return false;
        offs.merge(NAMES.get(lane), 1, Integer::sum);
        return true;
    }

    private boolean out(int lane, int i, int last) {
        if (i >= 0 && i <= last) return false;
        outs.merge(NAMES.get(lane), 1, Integer::sum);
        return true;
    }

    private int store(int lane, int i, BigInteger v) {
        BigInteger kept = kept(NAMES.get(lane), v);
        cells.get(NAMES.get(lane)).set(i, kept);
        return kept.intValueExact();
    }

    private static BigInteger kept(String lane, BigInteger v) {
        switch (lane) {
            case "SIGNS":
                return v.mod(BigInteger.valueOf(65536));
            case "TICKS":
                return signed(v, 65536);
            case "PITCH":
                return signed(v, 256);
            case "PEDAL":
                return v.mod(BigInteger.TWO);
            default:
                return v.max(BigInteger.valueOf(-8000)).min(BigInteger.valueOf(8000));
        }
    }

    private static BigInteger signed(BigInteger v, long round) {
        BigInteger rest = v.mod(BigInteger.valueOf(round));
        return rest.longValueExact() >= round / 2 ? rest.subtract(BigInteger.valueOf(round)) : rest;
    }

    private static BigInteger gone(BigInteger v) {
        return signed(v, ROUND.longValueExact());
    }

    private static BigInteger pedal(int way, boolean down, boolean odd) {
        boolean then = way == 0 ? down || odd : way == 1 ? down && odd : way == 2 ? down != odd : !down;
        return then ? BigInteger.ONE : BigInteger.ZERO;
    }

    private static List<BigInteger> zeros(int n) {
        List<BigInteger> zeros = new ArrayList<>();
        for (int i = 0; i < n; i++) zeros.add(BigInteger.ZERO);
        return zeros;
    }
}
