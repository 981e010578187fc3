import java.math.BigInteger;

/** "Terms": what playing starts from, how sums go round, what lanes tell, and when a roll has ended. */
final class SentencesOfPlaying extends Sentences {
    private static final String ROUND = "sums go round in 32 bits.";
    private static final String TELLS = "A lane TELLS the number of its cell HEAD, or another number (said below)"
        + " when it is off or has no such cell; that counts as no refusal.";
    private static final String STEP = "A STEP, by what SIGNS has in its cell HEAD"
        + " (when SIGNS is off or has no such cell there is no step, the roll has ended):";

    SentencesOfPlaying() {
        super("Terms");
        allNoughtAtFirst();
        clockGoesRoundUpwards();
        clockGoesRoundDownwards();
        soundGoesRoundUpwards();
        soundGoesRoundDownwards();
        tellsOtherwiseWhenOff();
        tellsOtherwiseWithoutTheCell();
        tellsItsFirstAndLastCell();
        tellsWithoutRefusal();
        endedWhenOff();
        endedWithoutCells();
        endedBehindTheLastCell();
        endedFarBehind();
        goesOnWhenThereAreMore();
    }

    private void allNoughtAtFirst() {
        sentence("PLAYING. There are HEAD, CLOCK, SHIFT, MARK, NOTES, SOUND, BLANKS, all 0 at first;", "each of them",
            t -> {
                t.playing(t.bench(), 0, 0, 0, 0, 0, 0, 0);
                Bench x = t.roll("r");
                t.write(x, TICKS, 1);
                t.due(x.play(1), 1);
                t.due(x.count(HEAD), 0);
            },
            () -> new Model() {
                {
                    blanks = 1;
                }
            },
            () -> new Model() {
                {
                    mark = -1;
                }
            });
    }

    private void clockGoesRoundUpwards() {
        sentence(ROUND, "CLOCK above the greatest", t -> {
            Bench x = loopOfNotes(t, 32767, 0, 0);
            for (int k = 0; k < 204; k++) {
                t.due(x.play(200), 200);
            }
            t.due(x.count(CLOCK), 2139029760);
            t.due(x.play(200), 200);
            t.due(x.count(CLOCK), (int) 2149515200L);
        }, () -> new Model() {
            @Override
            public int count(int what) {
                return what == CLOCK ? clock.min(BigInteger.valueOf(MAX)).intValueExact() : super.count(what);
            }
        });
    }

    private void clockGoesRoundDownwards() {
        sentence(ROUND, "CLOCK below the least", t -> {
            Bench x = loopOfNotes(t, -32768, 0, 0);
            for (int k = 0; k < 204; k++) {
                t.due(x.play(200), 200);
            }
            t.due(x.count(CLOCK), -2139095040);
            t.due(x.play(200), 200);
            t.due(x.count(CLOCK), (int) -2149580800L);
        }, () -> new Model() {
            @Override
            public int count(int what) {
                return what == CLOCK ? clock.max(BigInteger.valueOf(MIN)).intValueExact() : super.count(what);
            }
        });
    }

    private void soundGoesRoundUpwards() {
        sentence(ROUND, "SOUND above the greatest", t -> {
            Bench x = loopOfNotes(t, 32767, 127, 8000);
            t.due(x.play(160), 160);
            t.due(x.count(SOUND), 128 * 16653636);
            t.due(x.play(5), 5);
            t.due(x.count(SOUND), (int) (132L * 16653636));
            t.due(x.play(200), 200);
            t.due(x.count(SOUND), (int) (292L * 16653636));
        }, () -> new Model() {
            @Override
            public int count(int what) {
                return what == SOUND ? sound.min(BigInteger.valueOf(MAX)).intValueExact() : super.count(what);
            }
        });
    }

    private void soundGoesRoundDownwards() {
        sentence(ROUND, "SOUND below the least", t -> {
            Bench x = loopOfNotes(t, -32768, 127, -8000);
            t.due(x.play(155), 155);
            t.due(x.count(SOUND), -124 * 16654144);
            t.due(x.play(10), 10);
            t.due(x.count(SOUND), (int) (-132L * 16654144));
        }, () -> new Model() {
            @Override
            public int count(int what) {
                return what == SOUND ? sound.max(BigInteger.valueOf(MIN)).intValueExact() : super.count(what);
            }
        });
    }

    private void tellsOtherwiseWhenOff() {
        sentence(TELLS, "off, each lane", t -> {
            Bench x = t.roll(".ntrw");
            t.due(x.play(5), 5);
            t.playing(x, 5, 2, 0, 0, 1, 8, 0);
        }, () -> new Model() {
            @Override
            BigInteger told(String lane, int otherwise) {
                return cells.containsKey(lane) ? super.told(lane, otherwise) : BigInteger.ZERO;
            }
        });
    }

    private void tellsOtherwiseWithoutTheCell() {
        sentence(TELLS, "no such cell: as many cells as HEAD says, fewer, none", t -> {
            for (int many = 0; many < 3; many++) {
                Bench x = t.roll("||.ntrw");
                for (int lane = TICKS; lane <= PITCH; lane++) {
                    x.mount(lane, many);
                    for (int i = 0; i < many; i++) {
                        x.put(lane, i, 77);
                    }
                }
                t.due(x.play(200), 7);
                t.playing(x, 7, 2, 0, 1, 1, 8, 0);
            }
        }, () -> new Model() {
            @Override
            BigInteger told(String lane, int otherwise) {
                boolean justBehind = cells.containsKey(lane) && head > 0 && head == cells.get(lane).size();
                return justBehind ? cells.get(lane).get(head - 1) : super.told(lane, otherwise);
            }
        }, () -> new Model() {
            @Override
            BigInteger told(String lane, int otherwise) {
                boolean without = cells.containsKey(lane) && cells.get(lane).isEmpty();
                return without ? BigInteger.ZERO : super.told(lane, otherwise);
            }
        });
    }

    private void tellsItsFirstAndLastCell() {
        sentence(TELLS, "the first cell, and the last of 60", t -> {
            Bench x = t.roll(".");
            t.write(x, TICKS, 70, 1, 1);
            t.due(x.play(1), 1);
            t.due(x.count(CLOCK), 70);
            x.mount(SIGNS, 60);
            x.put(SIGNS, 59, '.');
            x.mount(TICKS, 60);
            x.put(TICKS, 59, 500);
            x.head(59);
            t.due(x.play(1), 1);
            t.due(x.count(CLOCK), 570);
        }, () -> new Model() {
            @Override
            BigInteger told(String lane, int otherwise) {
                return head == 59 && !lane.equals("SIGNS") ? BigInteger.valueOf(otherwise) : super.told(lane, otherwise);
            }
        }, () -> new Model() {
            @Override
            BigInteger told(String lane, int otherwise) {
                return head == 0 && !lane.equals("SIGNS") ? BigInteger.valueOf(otherwise) : super.told(lane, otherwise);
            }
        });
    }

    private void tellsWithoutRefusal() {
        sentence(TELLS, "off, or without the cell: the counts of OFF and OUT stay", t -> {
            Bench x = t.roll(".ntrw ");
            t.due(x.play(200), 6);
            for (int lane = TICKS; lane <= PITCH; lane++) {
                x.mount(lane, 0);
            }
            x.head(0);
            t.due(x.play(200), 6);
            x.head(60);
            t.due(x.play(200), 0);
            x.strip(SIGNS);
            t.due(x.play(200), 0);
            t.refusals(x, 0, 0, 0, 0, 0, 0, 0, 0, 0, 0);
        }, () -> new Model() {
            @Override
            BigInteger told(String lane, int otherwise) {
                off(NAMES.indexOf(lane));
                return super.told(lane, otherwise);
            }
        }, () -> new Model() {
            @Override
            BigInteger told(String lane, int otherwise) {
                if (cells.containsKey(lane)) out(NAMES.indexOf(lane), head, cells.get(lane).size() - 1);
                return super.told(lane, otherwise);
            }
        }, () -> new Model() {
            @Override
            public int play(int n) {
                off(SIGNS);
                return super.play(n);
            }
        });
    }

    private void endedWhenOff() {
        sentence(STEP, "SIGNS off", t -> {
            Bench x = t.bench();
            t.due(x.play(1), 0);
            t.write(x, SIGNS, '.', '.', '.');
            t.due(x.play(1), 1);
            x.strip(SIGNS);
            t.due(x.play(200), 0);
            t.playing(x, 1, 1, 0, 0, 0, 0, 0);
        }, () -> new Model() {
            @Override
            public int play(int n) {
                if (n > 0 && !cells.containsKey("SIGNS")) blanks++;
                return super.play(n);
            }
        }, () -> new Model() {
            @Override
            public int strip(int lane) {
                if (lane == SIGNS) head = 0;
                return super.strip(lane);
            }
        });
    }

    private void endedWithoutCells() {
        sentence(STEP, "SIGNS has 0 cells", t -> {
            Bench x = t.bench();
            x.mount(SIGNS, 0);
            t.due(x.play(1), 0);
            t.due(x.play(200), 0);
            t.playing(x, 0, 0, 0, 0, 0, 0, 0);
        }, () -> new Model() {
            @Override
            public int play(int n) {
                if (n > 0 && cells.containsKey("SIGNS") && cells.get("SIGNS").isEmpty()) head++;
                return super.play(n);
            }
        });
    }

    private void endedBehindTheLastCell() {
        sentence(STEP, "HEAD one behind the last cell, by playing and by head; the last of 60", t -> {
            Bench x = t.roll("..");
            t.due(x.play(3), 2);
            t.due(x.play(1), 0);
            t.due(x.count(HEAD), 2);
            t.due(x.head(1), 2);
            t.due(x.play(2), 1);
            x.mount(SIGNS, 60);
            x.head(59);
            t.due(x.play(2), 1);
            t.due(x.play(1), 0);
            t.playing(x, 60, 3, 0, 0, 0, 0, 1);
        }, () -> new Model() {
            @Override
            boolean tells(String lane) {
                return super.tells(lane) && (!lane.equals("SIGNS") || head < cells.get(lane).size() - 1);
            }
        }, () -> new Model() {
            @Override
            public int play(int n) {
                if (n > 0 && head == 2) head = 0;
                return super.play(n);
            }
        });
    }

    private void endedFarBehind() {
        sentence(STEP, "HEAD far behind the last cell", t -> {
            Bench x = t.roll("...");
            x.head(60);
            t.due(x.play(200), 0);
            x.head(4);
            t.due(x.play(200), 0);
            t.playing(x, 4, 0, 0, 0, 0, 0, 0);
        }, () -> new Model() {
            @Override
            public int play(int n) {
                if (n > 0 && head == 60) head = 0;
                return super.play(n);
            }
        });
    }

    private void goesOnWhenThereAreMore() {
        sentence(STEP, "ended, and more cells from then on", t -> {
            Bench x = t.roll("..");
            t.due(x.play(200), 2);
            x.mount(SIGNS, 4);
            t.due(x.play(200), 2);
            t.playing(x, 4, 2, 0, 0, 0, 0, 2);
        }, () -> new Model() {
            private boolean ended;

            @Override
            public int play(int n) {
                int done = ended ? 0 : super.play(n);
                ended |= done < n;
                return done;
            }
        });
    }

    /**
     * A bench whose steps, five by five, are four notes of twice these ticks, with the pitch as the
     * shift too, and a jump back to the first of them.
     */
    private static Bench loopOfNotes(Trial t, int ticks, int pitch, int force) {
        Bench x = t.roll("nnnnrt");
        t.write(x, TICKS, ticks, ticks, ticks, ticks, 32767);
        t.write(x, PEDAL, 1, 1, 1, 1);
        t.write(x, PITCH, pitch, pitch, pitch, pitch, 0, pitch);
        t.write(x, FORCE, force, force, force, force);
        x.head(5);
        t.due(x.play(1), 1);
        x.head(0);
        return x;
    }
}
