import java.math.BigInteger;

final class Sentences07Change extends Sentences {
    private static final String THEN = "Cell i, having c, is changed in a way: what it has then.";
    private static final String ADDED = "0: c + v is stored;";
    private static final String TAKEN = "1: c - v;";
    private static final String TIMES = "2: c times v;";
    private static final String ONE_MORE = "3: c + 1 (v counts for nothing);";
    private static final String ROUND = "sums, differences and products of SIGNS, TICKS, PITCH go round in 32 bits,";
    private static final String EXACT = "those of FORCE are exact.";
    private static final String NO_SUCH_WAY = "NO_WAY: others than 0 .. 3;";

    Sentences07Change() {
        super("Promise 7: change");
        firstAndLast();
        storedAtTheEdges();
        takenAtTheEdges();
        timesAtTheEdges();
        oneMoreAtTheEdges();
        oneMoreWhateverV();
        sumsGoRound();
        differencesGoRound();
        productsGoRound();
        sumsAreExact();
        differencesAreExact();
        productsAreExact();
        pedalEither();
        pedalBoth();
        pedalJustOne();
        pedalTurned();
        noLane("NO_LANE;", (x, lane) -> x.change(lane, 0, 0, 1));
        noWay();
        off("OFF;", (x, lane) -> x.change(lane, 0, 0, 1));
        offInEachWay();
        out();
        outOfNone();
    }

    private void firstAndLast() {
        sentence(THEN, "the first cell, the last of 60, and no other", t -> {
            for (int lane : LANES) {
                Bench x = t.bench();
                for (int each : LANES) {
                    x.mount(each, 60);
                }
                t.due(x.change(lane, 0, 0, 1), 1);
                t.due(x.change(lane, 3, 59, 1), 1);
                for (int i = 0; i < 60; i++) {
                    t.due(x.cell(lane, i), i == 0 || i == 59 ? 1 : 0);
                }
                for (int other : LANES) {
                    if (other != lane) {
                        t.due(x.cell(other, 0), 0);
                        t.due(x.cell(other, 59), 0);
                    }
                }
            }
        }, () -> new Model() {
            @Override
            public int change(int lane, int way, int i, int v) {
                return i == 59 ? OUT : super.change(lane, way, i, v);
            }
        }, () -> new Model() {
            @Override
            public int change(int lane, int way, int i, int v) {
                int had = super.cell(lane, i);
                int answer = super.change(lane, way, i, v);
                store(lane, i, BigInteger.valueOf(had));
                return answer;
            }
        }, () -> new Model() {
            @Override
            public int change(int lane, int way, int i, int v) {
                int had = super.cell(lane, i);
                super.change(lane, way, i, v);
                return had;
            }
        });
    }

    private void storedAtTheEdges() {
        sentence(ADDED, "one beyond the greatest and the least of each lane", t -> {
            changes(t, SIGNS, 0, new int[][] {{65535, 1, 0}, {65534, 1, 65535}, {0, -1, 65535}, {7, 0, 7}});
            changes(t, TICKS, 0, new int[][] {{32767, 1, -32768}, {-32768, -1, 32767}, {32766, 1, 32767}, {-7, 0, -7}});
            changes(t, PITCH, 0, new int[][] {{127, 1, -128}, {-128, -1, 127}, {126, 1, 127}, {-7, 0, -7}});
            changes(t, FORCE, 0, new int[][] {{8000, 1, 8000}, {-8000, -1, -8000}, {7999, 1, 8000}, {7999, 2, 8000},
                {-7999, -1, -8000}, {-7999, -2, -8000}, {8000, -1, 7999}, {-8000, 1, -7999}, {-7, 0, -7}});
        }, () -> limits("SIGNS", 0, 65535), () -> limits("TICKS", -32768, 32767), () -> limits("PITCH", -128, 127),
            () -> limits("FORCE", -8000, 8001), () -> limits("FORCE", -8001, 8000));
    }

    private void takenAtTheEdges() {
        sentence(TAKEN, "one beyond the greatest and the least of each lane", t -> {
            changes(t, SIGNS, 1, new int[][] {{65535, -1, 0}, {65534, -1, 65535}, {0, 1, 65535}, {7, 0, 7}});
            changes(t, TICKS, 1, new int[][] {{32767, -1, -32768}, {-32768, 1, 32767}, {-32767, 1, -32768}, {-7, 0, -7}});
            changes(t, PITCH, 1, new int[][] {{127, -1, -128}, {-128, 1, 127}, {-127, 1, -128}, {-7, 0, -7}});
            changes(t, FORCE, 1, new int[][] {{8000, -1, 8000}, {-8000, 1, -8000}, {7999, -1, 8000}, {7999, -2, 8000},
                {-7999, 1, -8000}, {-7999, 2, -8000}, {8000, 1, 7999}, {-8000, -1, -7999}, {-7, 0, -7}});
        }, () -> limits("SIGNS", 0, 65535), () -> limits("TICKS", -32768, 32767), () -> limits("PITCH", -128, 127),
            () -> limits("FORCE", -8000, 8001), () -> limits("FORCE", -8001, 8000),
            () -> new Model() {
                @Override
                BigInteger reckoned(int way, BigInteger c, BigInteger v) {
                    return way == 1 ? v.subtract(c) : super.reckoned(way, c, v);
                }
            });
    }

    private void timesAtTheEdges() {
        sentence(TIMES, "by 0, 1, -1, and beyond the greatest and the least of each lane", t -> {
            changes(t, SIGNS, 2, new int[][] {{65535, 0, 0}, {65535, 1, 65535}, {65535, -1, 1}, {32768, 2, 0},
                {65535, 2, 65534}, {256, 256, 0}});
            changes(t, TICKS, 2, new int[][] {{-32768, 0, 0}, {-32768, 1, -32768}, {-32768, -1, -32768},
                {16384, 2, -32768}, {32767, -1, -32767}, {32767, 2, -2}});
            changes(t, PITCH, 2, new int[][] {{-128, 0, 0}, {-128, 1, -128}, {-128, -1, -128}, {64, 2, -128},
                {127, -1, -127}, {127, 2, -2}});
            changes(t, FORCE, 2, new int[][] {{8000, 0, 0}, {8000, 1, 8000}, {8000, -1, -8000}, {-8000, -1, 8000},
                {4000, 2, 8000}, {4001, 2, 8000}, {-4000, 2, -8000}, {-4001, 2, -8000}, {4001, -2, -8000}});
        }, () -> limits("SIGNS", 0, 65535), () -> limits("TICKS", -32768, 32767), () -> limits("PITCH", -128, 127),
            () -> limits("FORCE", -8000, 8001), () -> limits("FORCE", -8001, 8000),
            () -> new Model() {
                @Override
                BigInteger reckoned(int way, BigInteger c, BigInteger v) {
                    return way == 2 && v.signum() == 0 ? c : super.reckoned(way, c, v);
                }
            });
    }

    private void oneMoreAtTheEdges() {
        sentence(ONE_MORE, "the greatest, the least, and -1 of each lane", t -> {
            changes(t, SIGNS, 3, new int[][] {{65535, 0, 0}, {65534, 0, 65535}, {0, 0, 1}});
            changes(t, TICKS, 3, new int[][] {{32767, 0, -32768}, {-32768, 0, -32767}, {-1, 0, 0}});
            changes(t, PITCH, 3, new int[][] {{127, 0, -128}, {-128, 0, -127}, {-1, 0, 0}});
            changes(t, FORCE, 3, new int[][] {{8000, 0, 8000}, {7999, 0, 8000}, {-8000, 0, -7999}, {-1, 0, 0}});
        }, () -> limits("SIGNS", 0, 65535), () -> limits("TICKS", -32768, 32767), () -> limits("PITCH", -128, 127),
            () -> limits("FORCE", -8000, 8001), () -> new Model() {
                @Override
                BigInteger reckoned(int way, BigInteger c, BigInteger v) {
                    return way == 3 && c.signum() < 0 ? c.subtract(BigInteger.ONE) : super.reckoned(way, c, v);
                }
            });
    }

    private void oneMoreWhateverV() {
        sentence(ONE_MORE, "v is 0, 5, -1, the least or the greatest number", t -> {
            for (int lane : new int[] {SIGNS, TICKS, FORCE, PITCH}) {
                changes(t, lane, 3, new int[][] {{7, 0, 8}, {7, 5, 8}, {7, -1, 8}, {7, MIN, 8}, {7, MAX, 8}});
            }
        }, () -> new Model() {
            @Override
            BigInteger reckoned(int way, BigInteger c, BigInteger v) {
                return super.reckoned(way == 3 && v.intValue() == 5 ? 0 : way, c, v);
            }
        });
    }

    private void sumsGoRound() {
        sentence(ROUND, "a sum above the greatest int, and one below the least", t -> {
            changes(t, SIGNS, 0, new int[][] {{65535, MAX, 65534}, {1, MAX, 0}, {5, MIN, 5}});
            changes(t, TICKS, 0, new int[][] {{32767, MAX, 32766}, {1, MAX, 0}, {-1, MIN, -1}, {-32768, MIN, -32768}});
            changes(t, PITCH, 0, new int[][] {{127, MAX, 126}, {1, MAX, 0}, {-1, MIN, -1}, {-128, MIN, -128}});
        }, this::stopsAtTheEndsOfInt);
    }

    private void differencesGoRound() {
        sentence(ROUND, "a difference above the greatest int, and one below the least", t -> {
            changes(t, SIGNS, 1, new int[][] {{5, MIN, 5}, {0, MIN, 0}, {65535, MIN + 1, 65534}, {0, MAX, 1}});
            changes(t, TICKS, 1, new int[][] {{0, MIN, 0}, {32767, MIN, 32767}, {-2, MAX, -1}, {-32768, MAX, -32767}});
            changes(t, PITCH, 1, new int[][] {{0, MIN, 0}, {127, MIN, 127}, {-2, MAX, -1}, {-128, MAX, -127}});
        }, this::stopsAtTheEndsOfInt);
    }

    private void productsGoRound() {
        sentence(ROUND, "a product above the greatest int, and one below the least", t -> {
            changes(t, SIGNS, 2, new int[][] {{65535, MAX, 1}, {3, MIN, 0}, {65535, 65537, 65535}, {3, MAX, 65533}});
            changes(t, TICKS, 2, new int[][] {{-1, MIN, 0}, {-32768, MIN, 0}, {32767, MAX, -32767}, {-3, MAX, 3},
                {32767, 131073, 32767}});
            changes(t, PITCH, 2, new int[][] {{-1, MIN, 0}, {-128, MIN, 0}, {127, MAX, -127}, {-3, MAX, 3},
                {127, 33554433, 127}});
        }, this::stopsAtTheEndsOfInt);
    }

    private void sumsAreExact() {
        sentence(EXACT, "a sum above the greatest int, and one below the least", t -> changes(t, FORCE, 0, new int[][] {
            {1, MAX, 8000}, {8000, MAX, 8000}, {0, MAX, 8000}, {-8000, MAX, 8000}, {-1, MIN, -8000},
            {-8000, MIN, -8000}, {0, MIN, -8000}, {8000, MIN, -8000}}), () -> forceGoesRound(0));
    }

    private void differencesAreExact() {
        sentence(EXACT, "a difference above the greatest int, and one below the least",
            t -> changes(t, FORCE, 1, new int[][] {
                {0, MIN, 8000}, {8000, MIN, 8000}, {-1, MIN, 8000}, {-8000, MIN, 8000}, {-2, MAX, -8000},
                {-8000, MAX, -8000}, {8000, MAX, -8000}}), () -> forceGoesRound(1));
    }

    private void productsAreExact() {
        sentence(EXACT, "a product above the greatest int, and one below the least",
            t -> changes(t, FORCE, 2, new int[][] {
                {-1, MIN, 8000}, {2, MIN, -8000}, {8000, MAX, 8000}, {-8000, MAX, -8000}, {8000, MIN, -8000},
                {-8000, MIN, 8000}, {4096, 1048576, 8000}, {-4096, 1048576, -8000}, {2, MAX, 8000}}),
            () -> forceGoesRound(2));
    }

    private void pedalEither() {
        sentence("In PEDAL: 0: 1 if c is 1 or v is odd, else 0;", "c up and down; v odd and even, below 0 too",
            t -> changes(t, PEDAL, 0, new int[][] {{0, 0, 0}, {0, 2, 0}, {0, -2, 0}, {0, MIN, 0}, {0, 1, 1}, {0, -1, 1},
                {0, MAX, 1}, {1, 0, 1}, {1, 2, 1}, {1, 1, 1}, {1, -1, 1}, {1, MIN, 1}, {1, MAX, 1}}),
            () -> pedalGoes(0, 2), () -> oddIsAboveNought(0), () -> evenIsNoughtAlone(0));
    }

    private void pedalBoth() {
        sentence("1: 1 if c is 1 and v is odd, else 0;", "c up and down; v odd and even, below 0 too",
            t -> changes(t, PEDAL, 1, new int[][] {{0, 0, 0}, {0, 1, 0}, {0, -1, 0}, {0, MAX, 0}, {1, 0, 0}, {1, 2, 0},
                {1, -2, 0}, {1, MIN, 0}, {1, 1, 1}, {1, 3, 1}, {1, -1, 1}, {1, MAX, 1}}),
            () -> pedalGoes(1, 0), () -> oddIsAboveNought(1), () -> evenIsNoughtAlone(1));
    }

    private void pedalJustOne() {
        sentence("2: 1 if just one of these holds, else 0;", "c up and down; v odd and even, below 0 too",
            t -> changes(t, PEDAL, 2, new int[][] {{0, 0, 0}, {0, 2, 0}, {0, MIN, 0}, {0, 1, 1}, {0, -1, 1}, {0, MAX, 1},
                {1, 0, 1}, {1, 2, 1}, {1, MIN, 1}, {1, 1, 0}, {1, -1, 0}, {1, MAX, 0}}),
            () -> pedalGoes(2, 0), () -> oddIsAboveNought(2), () -> evenIsNoughtAlone(2));
    }

    private void pedalTurned() {
        sentence("3: 1 - c.", "c up and down, whatever v", t -> changes(t, PEDAL, 3, new int[][] {
            {0, 0, 1}, {0, 1, 1}, {0, -1, 1}, {0, MAX, 1}, {0, MIN, 1}, {1, 0, 0}, {1, 1, 0}, {1, -1, 0}, {1, MAX, 0},
            {1, MIN, 0}}), () -> pedalGoes(3, 2), () -> pedalGoes(3, 0));
    }

    private void noWay() {
        sentence(NO_SUCH_WAY, "-1, 4, the least and the greatest number", t -> {
            for (int lane : LANES) {
                Bench x = t.bench(lane, 1, 0);
                for (int way : new int[] {-1, 4, 5, MIN, MAX}) {
                    t.due(x.change(lane, way, 0, 1), NO_WAY);
                    t.due(x.change(lane, way, 1, 1), NO_WAY);
                }
                t.cells(x, lane, 1, 0);
                t.due(x.count(lane), 0);
                t.due(x.count(5 + lane), 0);
                for (int way = 0; way < 4; way++) {
                    t.due(x.change(lane, way, 0, 1) > NO_LANE ? 1 : 0, 1);
                }
            }
        }, () -> new Model() {
            @Override
            public int change(int lane, int way, int i, int v) {
                return super.change(lane, way == 4 ? 3 : way, i, v);
            }
        }, () -> new Model() {
            @Override
            public int change(int lane, int way, int i, int v) {
                return super.change(lane, way == -1 ? 0 : way, i, v);
            }
        }, () -> new Model() {
            @Override
            public int change(int lane, int way, int i, int v) {
                return way == 3 && lane == PEDAL ? NO_WAY : super.change(lane, way, i, v);
            }
        });
    }

    private void offInEachWay() {
        sentence("OFF;", "each way, with a cell that there could be and with others", t -> {
            for (int lane : LANES) {
                Bench x = t.bench();
                for (int way = 0; way < 4; way++) {
                    t.due(x.change(lane, way, 0, 1), OFF);
                    t.due(x.change(lane, way, -1, 1), OFF);
                    t.due(x.change(lane, way, 60, 1), OFF);
                }
                t.due(x.count(lane), 12);
                t.due(x.count(5 + lane), 0);
            }
        }, () -> new Model() {
            @Override
            public int change(int lane, int way, int i, int v) {
                int answer = super.change(lane, way, i, v);
                return answer == OFF && way == 3 ? OUT : answer;
            }
        });
    }

    private void out() {
        sentence("OUT.", "-1, one behind the last, 60, the least and the greatest number; each way", t -> {
            for (int lane : LANES) {
                Bench x = t.bench(lane, 0, 0, 0);
                for (int way = 0; way < 4; way++) {
                    for (int i : new int[] {-1, 3, 4, 59, 60, MIN, MAX}) {
                        t.due(x.change(lane, way, i, 1), OUT);
                    }
                }
                t.cells(x, lane, 0, 0, 0);
                x.mount(lane, 60);
                t.due(x.change(lane, 0, 60, 1), OUT);
                t.due(x.change(lane, 3, -1, 1), OUT);
                t.due(x.count(5 + lane), 30);
                t.due(x.count(lane), 0);
            }
        }, () -> new Model() {
            @Override
            public int change(int lane, int way, int i, int v) {
                return super.change(lane, way, i == -1 ? 0 : i, v);
            }
        }, () -> new Model() {
            @Override
            public int change(int lane, int way, int i, int v) {
                return super.change(lane, way, i == 3 && way == 3 ? 2 : i, v);
            }
        });
    }

    private void outOfNone() {
        sentence("OUT.", "cell 0 of 0 cells", t -> {
            for (int lane : LANES) {
                Bench x = t.bench();
                x.mount(lane, 0);
                for (int way = 0; way < 4; way++) {
                    t.due(x.change(lane, way, 0, 1), OUT);
                }
                t.due(x.count(5 + lane), 4);
            }
        }, () -> new Model() {
            @Override
            public int change(int lane, int way, int i, int v) {
                boolean none = !noLane(lane) && cells.containsKey(name(lane)) && cells.get(name(lane)).isEmpty();
                return none && i == 0 ? v : super.change(lane, way, i, v);
            }
        });
    }

    /** Each row: c, v, and what the cell has then. */
    private static void changes(Trial t, int lane, int way, int[][] rows) {
        Bench x = t.bench();
        x.mount(lane, 2);
        for (int[] row : rows) {
            t.due(x.put(lane, 1, row[0]), row[0]);
            t.due(x.change(lane, way, 1, row[1]), row[2]);
            t.due(x.cell(lane, 1), row[2]);
        }
    }

    /** A bench that stores in a lane what lies nearest between two limits. */
    private static Model limits(String ofLane, long least, long greatest) {
        return new Model() {
            @Override
            BigInteger kept(String lane, BigInteger v) {
                return lane.equals(ofLane)
                    ? v.max(BigInteger.valueOf(least)).min(BigInteger.valueOf(greatest)) : super.kept(lane, v);
            }
        };
    }

    private Bench stopsAtTheEndsOfInt() {
        return new Model() {
            @Override
            BigInteger gone(BigInteger v) {
                return v.max(BigInteger.valueOf(MIN)).min(BigInteger.valueOf(MAX));
            }
        };
    }

    private static Model forceGoesRound(int inWay) {
        return new Model() {
            @Override
            BigInteger reckoned(int way, BigInteger c, BigInteger v) {
                BigInteger exact = super.reckoned(way, c, v);
                return way == inWay ? gone(exact) : exact;
            }
        };
    }

    private static Model pedalGoes(int inWay, int asWay) {
        return new Model() {
            @Override
            BigInteger pedal(int way, boolean down, boolean odd) {
                return super.pedal(way == inWay ? asWay : way, down, odd);
            }
        };
    }

    /** A bench that takes no number below 0 for odd. */
    private static Model oddIsAboveNought(int inWay) {
        return new Model() {
            @Override
            public int change(int lane, int way, int i, int v) {
                return super.change(lane, way, i, lane == PEDAL && way == inWay && v < 0 ? 0 : v);
            }
        };
    }

    /** A bench that takes every number but 0 for odd. */
    private static Model evenIsNoughtAlone(int inWay) {
        return new Model() {
            @Override
            public int change(int lane, int way, int i, int v) {
                return super.change(lane, way, i, lane == PEDAL && way == inWay && v != 0 ? 1 : v);
            }
        };
    }
}
