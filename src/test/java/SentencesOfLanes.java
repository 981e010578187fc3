import java.math.BigInteger;
import java.util.List;
import java.util.Set;
import java.util.TreeSet;

/** "Terms": what the lanes are, and what a number that is stored becomes. */
final class SentencesOfLanes extends Sentences {
    private static final String ONE_IS =
        "One is OFF (all at first), or has 0 .. 60 CELLS, numbered from 0 on, each a number.";

    SentencesOfLanes() {
        super("Terms");
        toldApart();
        fiveLanes();
        allOffAtFirst();
        noCellsAndNotOff();
        sixtyCells();
        numberedFromNought();
        storedInSigns();
        storedInTicks();
        storedInPitch();
        storedInPedal();
        storedInForce();
    }

    private void toldApart() {
        sentence("What is asked of a lane that is off, of a cell that there is not, of a sheet that is none,"
            + " or that can't be ruled so, is refused by a number of its own, and told apart.",
            "nine refusals, nine numbers", t -> {
                Bench x = t.bench();
                Set<Integer> numbers = new TreeSet<>(List.of(
                    x.size(SIGNS), x.at(SIGNS, 0, 0), x.rule(SIGNS, 17, 0), x.rule(SIGNS, -1, 0), x.size(5),
                    x.change(SIGNS, 4, 0, 0)));
                x.mount(SIGNS, 0);
                numbers.add(x.cell(SIGNS, 0));
                x.rule(SIGNS, 1, 0);
                numbers.add(x.at(SIGNS, 1, 0));
                numbers.add(x.at(SIGNS, 0, 0));
                t.due(numbers.size(), 9);
            },
            () -> new Model() {
                @Override
                public int cell(int lane, int i) {
                    int answer = super.cell(lane, i);
                    return answer == OUT ? OFF : answer;
                }
            },
            () -> new Model() {
                @Override
                public int rule(int lane, int rows, int columns) {
                    int answer = super.rule(lane, rows, columns);
                    return answer == GREAT ? NEGATIVE : answer;
                }
            });
    }

    private void fiveLanes() {
        sentence("LANES are 0 SIGNS, 1 TICKS, 2 FORCE, 3 PEDAL, 4 PITCH.", "the first, the last, none beside them",
            t -> {
                int[] storedThere = {40001, -25535, 8000, 1, 65};
                Bench x = t.bench();
                for (int lane : LANES) {
                    t.due(x.mount(lane, 1), 1);
                    t.due(x.put(lane, 0, 40001), storedThere[lane]);
                }
                t.due(x.mount(-1, 1), NO_LANE);
                t.due(x.mount(5, 1), NO_LANE);
            },
            () -> new Model() {
                @Override
                BigInteger kept(String lane, BigInteger v) {
                    return super.kept(lane.equals("TICKS") ? "FORCE" : lane.equals("FORCE") ? "TICKS" : lane, v);
                }
            },
            () -> new Model() {
                @Override
                public int mount(int lane, int n) {
                    return super.mount(lane == 5 ? 4 : lane, n);
                }
            });
    }

    private void allOffAtFirst() {
        sentence(ONE_IS, "all off at first", t -> {
            Bench x = t.bench();
            for (int lane : LANES) {
                t.due(x.size(lane), OFF);
                t.due(x.cell(lane, 0), OFF);
            }
        }, () -> new Model() {
            {
                cells.put("PITCH", zeros(0));
            }
        });
    }

    private void noCellsAndNotOff() {
        sentence(ONE_IS, "0 cells, which is not off", t -> {
            for (int lane : LANES) {
                Bench x = t.bench();
                t.due(x.mount(lane, 0), 0);
                t.due(x.size(lane), 0);
                t.due(x.cell(lane, 0), OUT);
                t.due(x.strip(lane), 0);
                t.due(x.size(lane), OFF);
            }
        }, () -> new Model() {
            @Override
            public int mount(int lane, int n) {
                int answer = super.mount(lane, n);
                if (answer == 0) cells.remove(name(lane));
                return answer;
            }
        });
    }

    private void sixtyCells() {
        sentence(ONE_IS, "60 cells, each a number of its own", t -> {
            for (int lane : LANES) {
                Bench x = t.bench();
                t.due(x.mount(lane, 60), 60);
                for (int i = 0; i < 60; i++) {
                    t.due(x.put(lane, i, (i + 2) % 3 % 2), (i + 2) % 3 % 2);
                }
                for (int i = 0; i < 60; i++) {
                    t.due(x.cell(lane, i), (i + 2) % 3 % 2);
                }
                t.due(x.size(lane), 60);
            }
        }, () -> new Model() {
            @Override
            public int mount(int lane, int n) {
                return n == 60 ? GREAT : super.mount(lane, n);
            }
        }, () -> new Model() {
            @Override
            int store(int lane, int i, BigInteger v) {
                return super.store(lane, i % 59, v);
            }
        });
    }

    private void numberedFromNought() {
        sentence(ONE_IS, "the first cell is 0, the last is one less than how many there are", t -> {
            for (int lane : LANES) {
                Bench x = t.bench(lane, 1, 0, 1);
                t.due(x.cell(lane, -1), OUT);
                t.due(x.cell(lane, 0), 1);
                t.due(x.cell(lane, 1), 0);
                t.due(x.cell(lane, 2), 1);
                t.due(x.cell(lane, 3), OUT);
            }
        }, () -> new Model() {
            @Override
            public int cell(int lane, int i) {
                return super.cell(lane, i - 1);
            }

            @Override
            public int put(int lane, int i, int v) {
                return super.put(lane, i - 1, v);
            }
        });
    }

    private void storedInSigns() {
        sentence("A number that is STORED becomes: in SIGNS its lowest 16 bits (0 .. 65535)",
            "least and greatest, one beyond each, below 0", t -> stores(t, SIGNS, new int[][] {
                {0, 0}, {65535, 65535}, {65536, 0}, {65537, 1}, {131071, 65535}, {-1, 65535}, {-65535, 1},
                {-65536, 0}, {-65537, 65535}, {32768, 32768}, {MAX, 65535}, {MIN, 0}}),
            () -> new Model() {
                @Override
                BigInteger kept(String lane, BigInteger v) {
                    return lane.equals("SIGNS") ? within(v, 0, 65535) : super.kept(lane, v);
                }
            },
            () -> new Model() {
                @Override
                BigInteger kept(String lane, BigInteger v) {
                    return super.kept(lane.equals("SIGNS") ? "TICKS" : lane, v);
                }
            });
    }

    private void storedInTicks() {
        sentence("in TICKS these with a sign (-32768 .. 32767)", "least and greatest, one beyond each",
            t -> stores(t, TICKS, new int[][] {
                {0, 0}, {32767, 32767}, {32768, -32768}, {-32768, -32768}, {-32769, 32767}, {65535, -1}, {65536, 0},
                {-65536, 0}, {-1, -1}, {MAX, -1}, {MIN, 0}}),
            () -> new Model() {
                @Override
                BigInteger kept(String lane, BigInteger v) {
                    return lane.equals("TICKS") ? within(v, -32768, 32767) : super.kept(lane, v);
                }
            },
            () -> new Model() {
                @Override
                BigInteger kept(String lane, BigInteger v) {
                    return super.kept(lane.equals("TICKS") ? "SIGNS" : lane, v);
                }
            });
    }

    private void storedInPitch() {
        sentence("in PITCH its lowest eight bits with a sign (-128 .. 127)", "least and greatest, one beyond each",
            t -> stores(t, PITCH, new int[][] {
                {0, 0}, {127, 127}, {128, -128}, {-128, -128}, {-129, 127}, {255, -1}, {256, 0}, {-256, 0}, {-1, -1},
                {MAX, -1}, {MIN, 0}}),
            () -> new Model() {
                @Override
                BigInteger kept(String lane, BigInteger v) {
                    return lane.equals("PITCH") ? within(v, -128, 127) : super.kept(lane, v);
                }
            },
            () -> new Model() {
                @Override
                BigInteger kept(String lane, BigInteger v) {
                    return lane.equals("PITCH") ? v.mod(BigInteger.valueOf(256)) : super.kept(lane, v);
                }
            });
    }

    private void storedInPedal() {
        sentence("in PEDAL 1 if it is odd, else 0", "odd and even, below 0 too", t -> stores(t, PEDAL, new int[][] {
            {0, 0}, {1, 1}, {2, 0}, {3, 1}, {-1, 1}, {-2, 0}, {-3, 1}, {MAX, 1}, {MAX - 1, 0}, {MIN, 0}, {MIN + 1, 1}}),
            () -> new Model() {
                @Override
                BigInteger kept(String lane, BigInteger v) {
                    return lane.equals("PEDAL") ? v.remainder(BigInteger.TWO) : super.kept(lane, v);
                }
            },
            () -> new Model() {
                @Override
                BigInteger kept(String lane, BigInteger v) {
                    return lane.equals("PEDAL") ? v.abs().min(BigInteger.ONE) : super.kept(lane, v);
                }
            });
    }

    private void storedInForce() {
        sentence("in FORCE itself, but at least -8000 and at most 8000 (it counts eighths).",
            "least and greatest, one beyond each", t -> stores(t, FORCE, new int[][] {
                {0, 0}, {-1, -1}, {1, 1}, {7999, 7999}, {8000, 8000}, {8001, 8000}, {-7999, -7999}, {-8000, -8000},
                {-8001, -8000}, {MAX, 8000}, {MIN, -8000}}),
            () -> new Model() {
                @Override
                BigInteger kept(String lane, BigInteger v) {
                    return lane.equals("FORCE") ? within(v, -8000, 8001) : super.kept(lane, v);
                }
            },
            () -> new Model() {
                @Override
                BigInteger kept(String lane, BigInteger v) {
                    return lane.equals("FORCE") ? within(v, -7999, 8000) : super.kept(lane, v);
                }
            });
    }

    /** Each pair: the number that is put, and what the cell has then. */
    private static void stores(Trial t, int lane, int[][] pairs) {
        Bench x = t.bench();
        x.mount(lane, 2);
        for (int[] pair : pairs) {
            t.due(x.put(lane, 1, pair[0]), pair[1]);
            t.due(x.cell(lane, 1), pair[1]);
            // A way of change stores as well: PEDAL alone has ways of its own.
            if (lane != PEDAL) {
                x.put(lane, 0, 0);
                t.due(x.change(lane, 0, 0, pair[0]), pair[1]);
            }
        }
    }

    private static BigInteger within(BigInteger v, long least, long greatest) {
        return v.max(BigInteger.valueOf(least)).min(BigInteger.valueOf(greatest));
    }
}
