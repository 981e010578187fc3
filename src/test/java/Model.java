import java.math.BigInteger;
import java.util.ArrayList;
import java.util.HashMap;
import java.util.List;
import java.util.Map;

/**
 * The document written a second time, in other means than the class (lists, maps, BigInteger),
 * so that a slip in the one is not a slip in the other. Its parts can be overridden, so that a
 * bench can be made in which a sentence of the document is broken.
 */
class Model implements Bench {
    static final int NONE = 0;
    static final List<String> NAMES = List.of("SIGNS", "TICKS", "FORCE", "PEDAL", "PITCH");

    final Map<String, List<BigInteger>> cells = new HashMap<>();
    final Map<String, List<List<BigInteger>>> sheets = new HashMap<>();
    final Map<String, Integer> columnsOf = new HashMap<>();
    final Map<String, Integer> offs = new HashMap<>();
    final Map<String, Integer> outs = new HashMap<>();
    BigInteger clock = BigInteger.ZERO;
    BigInteger shift = BigInteger.ZERO;
    BigInteger sound = BigInteger.ZERO;
    int head;
    int mark;
    int notes;
    int blanks;

    @Override
    public int mount(int lane, int n) {
        if (noLane(lane)) return Sentences.NO_LANE;
        if (n > 60) return Sentences.GREAT;
        if (n < 0) return Sentences.NEGATIVE;
        cells.put(name(lane), zeros(n));
        return n;
    }

    @Override
    public int strip(int lane) {
        if (noLane(lane)) return Sentences.NO_LANE;
        if (off(lane)) return Sentences.OFF;
        return cells.remove(name(lane)).size();
    }

    @Override
    public int size(int lane) {
        if (noLane(lane)) return Sentences.NO_LANE;
        if (off(lane)) return Sentences.OFF;
        return cells.get(name(lane)).size();
    }

    @Override
    public int cell(int lane, int i) {
        int refusal = refusalOfCell(lane, i);
        return refusal != NONE ? refusal : has(lane, i).intValueExact();
    }

    @Override
    public int put(int lane, int i, int v) {
        int refusal = refusalOfCell(lane, i);
        return refusal != NONE ? refusal : store(lane, i, BigInteger.valueOf(v));
    }

    @Override
    public int change(int lane, int way, int i, int v) {
        if (noLane(lane)) return Sentences.NO_LANE;
        if (way != 0 && way != 1 && way != 2 && way != 3) return Sentences.NO_WAY;
        int refusal = refusalOfCell(lane, i);
        if (refusal != NONE) return refusal;
        BigInteger c = has(lane, i);
        if (name(lane).equals("PEDAL")) return store(lane, i, pedal(way, c.signum() == 1, v % 2 != 0));
        BigInteger exact = reckoned(way, c, BigInteger.valueOf(v));
        return store(lane, i, name(lane).equals("FORCE") ? exact : gone(exact));
    }

    @Override
    public int rule(int lane, int rows, int columns) {
        if (noLane(lane)) return Sentences.NO_LANE;
        if (rows > 16 || columns > 16) return Sentences.GREAT;
        if (rows < 0 || columns < 0) return Sentences.NEGATIVE;
        List<List<BigInteger>> sheet = new ArrayList<>();
        for (int row = 0; row < rows; row++) sheet.add(zeros(columns));
        sheets.put(name(lane), sheet);
        columnsOf.put(name(lane), columns);
        return rows * columns;
    }

    @Override
    public int lay(int lane, int row, int from) {
        int refusal = refusalOfRow(lane, row);
        if (refusal != NONE) return refusal;
        if (off(lane)) return Sentences.OFF;
        List<BigInteger> laid = cells.get(name(lane));
        if (out(lane, from, laid.size())) return Sentences.OUT;
        int many = 0;
        while (from + many < laid.size() && many < columnsOf.get(name(lane))) {
            sheets.get(name(lane)).get(row).set(many, laid.get(from + many));
            many++;
        }
        return many;
    }

    @Override
    public int at(int lane, int row, int column) {
        int refusal = refusalOfRow(lane, row);
        if (refusal != NONE) return refusal;
        if (column < 0 || column >= columnsOf.get(name(lane))) return Sentences.NO_COLUMN;
        return sheets.get(name(lane)).get(row).get(column).intValueExact();
    }

    @Override
    public int head(int h) {
        if (h > 60) return Sentences.GREAT;
        if (h < 0) return Sentences.NEGATIVE;
        int was = head;
        head = h;
        return was;
    }

    @Override
    public int play(int n) {
        if (n < 0) return Sentences.NEGATIVE;
        if (n > 200) return Sentences.GREAT;
        int done = 0;
        while (done < n && tells("SIGNS")) {
            step(told("SIGNS", -1).intValueExact());
            done++;
        }
        return done;
    }

    @Override
    public int count(int what) {
        if (what >= 0 && what <= 4) return offs.getOrDefault(name(what), 0);
        if (what >= 5 && what <= 9) return outs.getOrDefault(name(what - 5), 0);
        if (what == 10) return head;
        if (what == 11) return gone(clock).intValueExact();
        if (what == 12) return shift.intValueExact();
        if (what == 13) return mark;
        if (what == 14) return notes;
        if (what == 15) return gone(sound).intValueExact();
        if (what == 16) return blanks;
        return 0;
    }

    void step(int sign) {
        if (sign == 46) {
            clock = clock.add(told("TICKS", 1));
        } else if (sign == 110) {
            note();
        } else if (sign == 116) {
            shift = told("PITCH", 0);
        } else if (sign == 124) {
            mark = head;
        } else if (sign == 114 && told("TICKS", 0).signum() > 0) {
            lessen("TICKS");
            head = mark;
            return;
        } else if (sign == 119 && told("FORCE", 0).signum() > 0) {
            lessen("FORCE");
        } else if (sign != 114 && sign != 119) {
            blanks++;
        }
        head++;
    }

    void note() {
        BigInteger t = told("TICKS", 1);
        if (told("PEDAL", 0).signum() == 1) t = t.add(t);
        clock = clock.add(t);
        notes++;
        sound = sound.add(t.multiply(told("PITCH", 0).add(shift))).add(told("FORCE", 8));
    }

    boolean tells(String lane) {
        return cells.containsKey(lane) && head < cells.get(lane).size();
    }

    BigInteger told(String lane, int otherwise) {
        return tells(lane) ? cells.get(lane).get(head) : BigInteger.valueOf(otherwise);
    }

    void lessen(String lane) {
        cells.get(lane).set(head, cells.get(lane).get(head).subtract(BigInteger.ONE));
    }

    boolean noLane(int lane) {
        return lane < 0 || lane > 4;
    }

    String name(int lane) {
        return NAMES.get(lane);
    }

    boolean off(int lane) {
        if (cells.containsKey(name(lane))) return false;
        offs.merge(name(lane), 1, Integer::sum);
        return true;
    }

    boolean out(int lane, int i, int last) {
        if (i >= 0 && i <= last) return false;
        outs.merge(name(lane), 1, Integer::sum);
        return true;
    }

    int refusalOfCell(int lane, int i) {
        if (noLane(lane)) return Sentences.NO_LANE;
        if (off(lane)) return Sentences.OFF;
        return out(lane, i, cells.get(name(lane)).size() - 1) ? Sentences.OUT : NONE;
    }

    int refusalOfRow(int lane, int row) {
        if (noLane(lane)) return Sentences.NO_LANE;
        List<List<BigInteger>> sheet = sheets.get(name(lane));
        if (sheet == null) return Sentences.NO_SHEET;
        return row < 0 || row >= sheet.size() ? Sentences.NO_ROW : NONE;
    }

    BigInteger has(int lane, int i) {
        return cells.get(name(lane)).get(i);
    }

    int store(int lane, int i, BigInteger v) {
        BigInteger kept = kept(name(lane), v);
        cells.get(name(lane)).set(i, kept);
        return kept.intValueExact();
    }

    BigInteger kept(String lane, BigInteger v) {
        switch (lane) {
            case "SIGNS":
                return v.mod(BigInteger.valueOf(65536));
            case "TICKS":
                return signed(v, 65536);
            case "PITCH":
                return signed(v, 256);
            case "PEDAL":
                return v.mod(BigInteger.TWO);
            default:
                return v.max(BigInteger.valueOf(-8000)).min(BigInteger.valueOf(8000));
        }
    }

    BigInteger reckoned(int way, BigInteger c, BigInteger v) {
        switch (way) {
            case 0:
                return c.add(v);
            case 1:
                return c.subtract(v);
            case 2:
                return c.multiply(v);
            default:
                return c.add(BigInteger.ONE);
        }
    }

    BigInteger gone(BigInteger v) {
        return signed(v, 1L << 32);
    }

    BigInteger pedal(int way, boolean down, boolean odd) {
        boolean then = way == 0 ? down || odd : way == 1 ? down && odd : way == 2 ? down != odd : !down;
        return then ? BigInteger.ONE : BigInteger.ZERO;
    }

    List<BigInteger> zeros(int n) {
        List<BigInteger> zeros = new ArrayList<>();
        for (int i = 0; i < n; i++) zeros.add(BigInteger.ZERO);
        return zeros;
    }

    private static BigInteger signed(BigInteger v, long round) {
        BigInteger rest = v.mod(BigInteger.valueOf(round));
        return rest.longValueExact() >= round / 2 ? rest.subtract(BigInteger.valueOf(round)) : rest;
    }
}
