import java.math.BigInteger;

/** "Terms": what each sign does in a step. */
final class SentencesOfSteps extends Sentences {
    private static final String REST = "46: CLOCK grows by what TICKS tells (else 1).";
    private static final String NOTE_TIME =
        "110: t is what TICKS tells (else 1), twice that if PEDAL tells 1 (else 0);";
    private static final String NOTE_SOUND =
        "SOUND by t times (what PITCH tells, else 0, and SHIFT), and by what FORCE tells (else 8).";
    private static final String SHIFTS = "116: SHIFT is what PITCH tells (else 0).";
    private static final String MARKS = "124: MARK is HEAD.";
    private static final String REPEAT = "114: if TICKS tells more than 0 (else 0): that cell becomes 1 less,"
        + " and HEAD is MARK: the step is done.";
    private static final String WANE = "119: if FORCE tells more than 0 (else 0): that cell becomes 1 less.";
    private static final String OTHERS = "Others: BLANKS grows by 1.";
    private static final String THEN = "Then (but for 114 with HEAD at MARK, as said) HEAD grows by 1.";

    SentencesOfSteps() {
        super("Terms");
        restOfAnyLength();
        restElseOne();
        noteOfAnyLength();
        noteElseOne();
        noteTwiceByPedalAlone();
        noteGrowsClockAndNotes();
        soundOfPitchAndShift();
        soundElse();
        shiftOfPitch();
        shiftElseNought();
        markIsHead();
        repeatMoreThanNought();
        repeatNotMoreThanNought();
        repeatElseNought();
        repeatToWhereMarkIs();
        repeatIsOneStep();
        waneMoreThanNought();
        waneNotMoreThanNought();
        waneElseNought();
        blanksBesideEachSign();
        blanksOfLowestBits();
        headGrowsByOne();
        headGrowsToSixty();
        headAtMarkAndNoJump();
    }

    private void restOfAnyLength() {
        sentence(REST, "0, below 0, the least and the greatest", t -> {
            Bench x = t.roll(".....");
            t.write(x, TICKS, 0, -1, 32767, -32768, 1);
            int clock = 0;
            for (int ticks : new int[] {0, -1, 32767, -32768, 1}) {
                clock += ticks;
                t.due(x.play(1), 1);
                t.due(x.count(CLOCK), clock);
            }
            t.playing(x, 5, -1, 0, 0, 0, 0, 0);
        }, () -> new Model() {
            @Override
            void step(int sign) {
                BigInteger was = clock;
                super.step(sign);
                clock = sign == 46 ? clock.max(was) : clock;
            }
        }, () -> new Model() {
            @Override
            void step(int sign) {
                BigInteger was = clock;
                super.step(sign);
                clock = sign == 46 && clock.equals(was) ? clock.add(BigInteger.ONE) : clock;
            }
        });
    }

    private void restElseOne() {
        sentence(REST, "else 1: TICKS off, TICKS too short", t -> {
            Bench x = t.roll("...");
            t.due(x.play(1), 1);
            t.due(x.count(CLOCK), 1);
            t.write(x, TICKS, 9);
            t.due(x.play(1), 1);
            t.due(x.count(CLOCK), 2);
            x.mount(TICKS, 0);
            t.due(x.play(1), 1);
            t.due(x.count(CLOCK), 3);
        }, () -> otherwise(46, "TICKS", 0));
    }

    private void noteOfAnyLength() {
        sentence(NOTE_TIME, "0, below 0, the least and the greatest; PEDAL up and down", t -> {
            Bench x = t.roll("nnnnnnnn");
            t.write(x, TICKS, 0, -1, 32767, -32768, 0, -1, 32767, -32768);
            t.write(x, PEDAL, 0, 0, 0, 0, 1, 1, 1, 1);
            int clock = 0;
            for (int time : new int[] {0, -1, 32767, -32768, 0, -2, 65534, -65536}) {
                clock += time;
                t.due(x.play(1), 1);
                t.due(x.count(CLOCK), clock);
            }
        }, () -> new Model() {
            @Override
            void note() {
                BigInteger was = clock;
                super.note();
                clock = clock.equals(was) ? clock.add(BigInteger.ONE) : clock;
            }
        }, () -> new Model() {
            @Override
            void note() {
                BigInteger was = clock;
                super.note();
                clock = was.add(BigInteger.valueOf(clock.subtract(was).shortValue()));
            }
        });
    }

    private void noteElseOne() {
        sentence(NOTE_TIME, "else 1, and twice that: TICKS off, TICKS too short", t -> {
            Bench x = t.roll("nnnn");
            t.write(x, PEDAL, 0, 1, 0, 1);
            t.due(x.play(2), 2);
            t.due(x.count(CLOCK), 3);
            t.write(x, TICKS, 9, 9);
            t.due(x.play(2), 2);
            t.due(x.count(CLOCK), 6);
        }, () -> otherwise(110, "TICKS", 0), () -> otherwise(110, "TICKS", 2));
    }

    private void noteTwiceByPedalAlone() {
        sentence(NOTE_TIME, "PEDAL 1, PEDAL 0, PEDAL off, PEDAL too short", t -> {
            Bench x = t.roll("nnnn");
            t.write(x, TICKS, 100, 100, 100, 100);
            t.write(x, PEDAL, 1, 0);
            t.due(x.play(1), 1);
            t.due(x.count(CLOCK), 200);
            t.due(x.play(1), 1);
            t.due(x.count(CLOCK), 300);
            t.due(x.play(1), 1);
            t.due(x.count(CLOCK), 400);
            x.strip(PEDAL);
            t.due(x.play(1), 1);
            t.due(x.count(CLOCK), 500);
        }, () -> otherwise(110, "PEDAL", 1), () -> new Model() {
            @Override
            void note() {
                BigInteger was = clock;
                super.note();
                if (told("PEDAL", 0).signum() == 1) clock = clock.add(clock.subtract(was));
            }
        });
    }

    private void noteGrowsClockAndNotes() {
        sentence("CLOCK grows by t; NOTES by 1;", "each time, a t of 0 or below 0 too", t -> {
            Bench x = t.roll("nnn.");
            t.write(x, TICKS, 0, -7, 3);
            t.due(x.play(1), 1);
            t.playing(x, 1, 0, 0, 0, 1);
            t.due(x.play(1), 1);
            t.playing(x, 2, -7, 0, 0, 2);
            t.due(x.play(2), 2);
            t.playing(x, 4, -3, 0, 0, 3);
        }, () -> new Model() {
            @Override
            void note() {
                super.note();
                if (told("TICKS", 1).signum() == 0) notes--;
            }
        }, () -> new Model() {
            @Override
            void note() {
                super.note();
                if (told("TICKS", 1).signum() < 0) clock = clock.subtract(told("TICKS", 1));
            }
        });
    }

    private void soundOfPitchAndShift() {
        sentence(NOTE_SOUND, "least and greatest of PITCH, SHIFT, FORCE and t", t -> {
            int[][] rows = {{32767, 127, 127, 8000}, {-32768, 127, 127, -8000}, {32767, -128, -128, 8000},
                {-32768, -128, -128, -8000}, {32767, -128, 127, 0}, {0, 127, 127, -1}, {-1, 0, -128, 1}};
            for (int[] row : rows) {
                for (int pedal = 0; pedal < 2; pedal++) {
                    Bench x = t.roll("tn");
                    t.write(x, TICKS, 5, row[0]);
                    t.write(x, PITCH, row[1], row[2]);
                    t.write(x, FORCE, 6, row[3]);
                    t.write(x, PEDAL, 0, pedal);
                    t.due(x.play(2), 2);
                    t.due(x.count(SOUND), row[0] * (1 + pedal) * (row[1] + row[2]) + row[3]);
                }
            }
        }, () -> new Model() {
            @Override
            void note() {
                super.note();
                if (told("FORCE", 8).signum() < 0) sound = sound.subtract(told("FORCE", 8));
            }
        }, () -> new Model() {
            @Override
            void note() {
                BigInteger kept = shift;
                BigInteger pitch = told("PITCH", 0);
                shift = BigInteger.valueOf(pitch.add(shift).byteValue()).subtract(pitch);
                super.note();
                shift = kept;
            }
        }, () -> new Model() {
            @Override
            void note() {
                BigInteger was = sound;
                super.note();
                boolean down = told("PEDAL", 0).signum() == 1;
                BigInteger once = told("TICKS", 1).multiply(told("PITCH", 0).add(shift)).add(told("FORCE", 8));
                sound = down ? was.add(once) : sound;
            }
        });
    }

    private void soundElse() {
        sentence(NOTE_SOUND, "else 0 of PITCH and else 8 of FORCE: off, too short", t -> {
            Bench x = t.roll("tnn");
            t.write(x, TICKS, 0, 100, 1000);
            t.write(x, PITCH, 3);
            t.write(x, FORCE, 50);
            t.due(x.play(2), 2);
            t.due(x.count(SOUND), 308);
            x.strip(PITCH);
            x.strip(FORCE);
            t.due(x.play(1), 1);
            t.due(x.count(SOUND), 308 + 3008);
        }, () -> otherwise(110, "PITCH", 1), () -> otherwise(110, "FORCE", 0));
    }

    private void shiftOfPitch() {
        sentence(SHIFTS, "least, greatest and 0, whatever it was", t -> {
            Bench x = t.roll("tttt");
            t.write(x, PITCH, 127, -128, 0, 1);
            for (int pitch : new int[] {127, -128, 0, 1}) {
                t.due(x.play(1), 1);
                t.due(x.count(SHIFT), pitch);
            }
            t.playing(x, 4, 0, 1, 0, 0, 0, 0);
        }, () -> new Model() {
            @Override
            void step(int sign) {
                BigInteger was = shift;
                super.step(sign);
                shift = sign == 116 && shift.signum() == 0 ? was : shift;
            }
        }, () -> new Model() {
            @Override
            void step(int sign) {
                BigInteger was = shift;
                super.step(sign);
                shift = sign == 116 ? was.add(shift) : shift;
            }
        });
    }

    private void shiftElseNought() {
        sentence(SHIFTS, "else 0: PITCH off, PITCH too short", t -> {
            Bench x = t.roll("ttt");
            t.write(x, PITCH, 5);
            t.due(x.play(1), 1);
            t.due(x.count(SHIFT), 5);
            t.due(x.play(1), 1);
            t.due(x.count(SHIFT), 0);
            x.head(0);
            x.play(1);
            x.strip(PITCH);
            t.due(x.play(1), 1);
            t.due(x.count(SHIFT), 0);
        }, () -> new Model() {
            @Override
            void step(int sign) {
                BigInteger was = shift;
                boolean without = !tells("PITCH");
                super.step(sign);
                shift = without ? was : shift;
            }
        });
    }

    private void markIsHead() {
        sentence(MARKS, "the first cell and the last of 60, ahead and back", t -> {
            Bench x = t.bench();
            x.mount(SIGNS, 60);
            x.put(SIGNS, 0, '|');
            x.put(SIGNS, 59, '|');
            x.head(59);
            t.due(x.play(1), 1);
            t.playing(x, 60, 0, 0, 59, 0, 0, 0);
            x.head(0);
            t.due(x.play(1), 1);
            t.playing(x, 1, 0, 0, 0, 0, 0, 0);
        }, () -> new Model() {
            @Override
            void step(int sign) {
                int was = mark;
                super.step(sign);
                mark = Math.max(was, mark);
            }
        }, () -> new Model() {
            @Override
            void step(int sign) {
                super.step(sign);
                if (sign == 124) mark = head;
            }
        });
    }

    private void repeatMoreThanNought() {
        sentence(REPEAT, "more than 0: 1, 2, the greatest", t -> {
            for (int ticks : new int[] {1, 2, 32767}) {
                Bench x = t.roll(" |.r");
                t.write(x, TICKS, 5, 5, 5, ticks);
                t.due(x.play(4), 4);
                t.playing(x, 1, 5, 0, 1, 0, 0, 1);
                t.cells(x, TICKS, 5, 5, 5, ticks - 1);
            }
        }, () -> new Model() {
            @Override
            void step(int sign) {
                super.step(sign == 114 && told("TICKS", 0).intValue() == 1 ? 119 : sign);
            }
        }, () -> new Model() {
            @Override
            void lessen(String lane) {
                if (!lane.equals("TICKS")) super.lessen(lane);
            }
        }, () -> new Model() {
            @Override
            void step(int sign) {
                int was = head;
                super.step(sign);
                if (sign == 114 && head == mark && was != mark) head = mark + 1;
            }
        });
    }

    private void repeatNotMoreThanNought() {
        sentence(REPEAT, "not more than 0: 0, -1, the least; the cell stays", t -> {
            for (int ticks : new int[] {0, -1, -32768}) {
                Bench x = t.roll("|.r");
                t.write(x, TICKS, 5, 5, ticks);
                t.write(x, FORCE, 6, 6, 6);
                t.due(x.play(3), 3);
                t.playing(x, 3, 5, 0, 0, 0, 0, 0);
                t.cells(x, TICKS, 5, 5, ticks);
                t.cells(x, FORCE, 6, 6, 6);
            }
        }, () -> new Model() {
            @Override
            void step(int sign) {
                boolean wrong = sign == 114 && told("TICKS", 1).signum() == 0;
                super.step(sign);
                if (wrong) head = mark;
            }
        }, () -> new Model() {
            @Override
            void step(int sign) {
                if (sign == 114 && told("TICKS", 0).signum() < 0) lessen("TICKS");
                super.step(sign);
            }
        }, () -> new Model() {
            @Override
            void step(int sign) {
                super.step(sign);
                if (sign == 114 && head != mark) blanks++;
            }
        }, () -> new Model() {
            @Override
            void step(int sign) {
                super.step(sign == 114 && told("TICKS", 0).signum() <= 0 ? 119 : sign);
            }
        });
    }

    private void repeatElseNought() {
        sentence(REPEAT, "else 0: TICKS off, TICKS too short", t -> {
            Bench x = t.roll("|.r");
            t.due(x.play(3), 3);
            t.playing(x, 3, 1, 0, 0, 0, 0, 0);
            t.write(x, TICKS, 5, 5);
            x.head(2);
            t.due(x.play(1), 1);
            t.due(x.count(HEAD), 3);
            t.cells(x, TICKS, 5, 5);
        }, () -> new Model() {
            @Override
            void step(int sign) {
                boolean wrong = sign == 114 && !tells("TICKS");
                super.step(sign);
                if (wrong) head = mark;
            }
        });
    }

    private void repeatToWhereMarkIs() {
        sentence(REPEAT, "MARK at its own cell, ahead, at the last cell, and where SIGNS has no cell any more", t -> {
            Bench own = t.roll("r");
            t.write(own, TICKS, 2);
            t.due(own.play(2), 2);
            t.playing(own, 0, 0, 0, 0, 0, 0, 0);
            t.cells(own, TICKS, 0);
            Bench ahead = t.roll("r..|");
            t.write(ahead, TICKS, 1);
            ahead.head(3);
            t.due(ahead.play(1), 1);
            ahead.head(0);
            t.due(ahead.play(1), 1);
            t.due(ahead.count(HEAD), 3);
            ahead.put(TICKS, 0, 1);
            t.write(ahead, SIGNS, 'r', '.');
            ahead.head(0);
            t.due(ahead.play(200), 1);
            t.playing(ahead, 3, 0, 0, 3, 0, 0, 0);
        }, () -> new Model() {
            @Override
            void step(int sign) {
                int was = head;
                super.step(sign);
                if (sign == 114 && head > was + 1) head = was + 1;
            }
        }, () -> new Model() {
            @Override
            void step(int sign) {
                super.step(sign);
                if (sign == 114) head = Math.min(head, cells.get("SIGNS").size());
            }
        }, () -> new Model() {
            @Override
            void step(int sign) {
                boolean wrong = sign == 114 && head == mark;
                super.step(sign);
                if (wrong && head == mark) head++;
            }
        });
    }

    private void repeatIsOneStep() {
        sentence(REPEAT, "the step is done: it counts as one, and what stands at MARK waits for the next", t -> {
            Bench x = t.roll(".r");
            t.write(x, TICKS, 10, 3);
            t.due(x.play(2), 2);
            t.playing(x, 0, 10, 0, 0, 0, 0, 0);
            t.due(x.play(200), 6);
            t.playing(x, 2, 40, 0, 0, 0, 0, 0);
        }, () -> new Model() {
            @Override
            void step(int sign) {
                super.step(sign);
                if (sign == 114 && head == mark) super.step(told("SIGNS", -1).intValueExact());
            }
        });
    }

    private void waneMoreThanNought() {
        sentence(WANE, "more than 0: 1, 2, the greatest", t -> {
            Bench x = t.roll("www");
            t.write(x, FORCE, 1, 2, 8000);
            t.write(x, TICKS, 5, 5, 5);
            t.due(x.play(3), 3);
            t.cells(x, FORCE, 0, 1, 7999);
            t.cells(x, TICKS, 5, 5, 5);
            t.playing(x, 3, 0, 0, 0, 0, 0, 0);
        }, () -> new Model() {
            @Override
            void step(int sign) {
                super.step(sign == 119 && told("FORCE", 0).intValue() == 1 ? 124 : sign);
            }
        }, () -> new Model() {
            @Override
            void lessen(String lane) {
                if (!lane.equals("FORCE") || told(lane, 0).intValue() < 8000) super.lessen(lane);
            }
        });
    }

    private void waneNotMoreThanNought() {
        sentence(WANE, "not more than 0: 0, -1, the least; the cell stays", t -> {
            Bench x = t.roll("www");
            t.write(x, FORCE, 0, -1, -8000);
            t.due(x.play(3), 3);
            t.cells(x, FORCE, 0, -1, -8000);
            t.playing(x, 3, 0, 0, 0, 0, 0, 0);
        }, () -> new Model() {
            @Override
            void step(int sign) {
                if (sign == 119 && told("FORCE", 1).signum() == 0) lessen("FORCE");
                super.step(sign);
            }
        }, () -> new Model() {
            @Override
            void step(int sign) {
                if (sign == 119 && told("FORCE", 0).intValue() == -1) lessen("FORCE");
                super.step(sign);
            }
        });
    }

    private void waneElseNought() {
        sentence(WANE, "else 0: FORCE off, FORCE too short", t -> {
            Bench x = t.roll(" w");
            t.due(x.play(2), 2);
            t.playing(x, 2, 0, 0, 0, 0, 0, 1);
            t.due(x.size(FORCE), OFF);
            t.write(x, FORCE, 7);
            x.head(1);
            t.due(x.play(1), 1);
            t.playing(x, 2, 0, 0, 0, 0, 0, 1);
            t.cells(x, FORCE, 7);
        }, () -> new Model() {
            @Override
            void step(int sign) {
                boolean wrong = sign == 119 && !tells("FORCE") && cells.containsKey("FORCE");
                super.step(sign);
                if (wrong) cells.get("FORCE").add(BigInteger.valueOf(-1));
            }
        }, () -> new Model() {
            @Override
            void step(int sign) {
                super.step(sign == 119 && !tells("FORCE") ? 0 : sign);
            }
        });
    }

    private void blanksBesideEachSign() {
        sentence(OTHERS, "the least, the greatest, and those beside each sign", t -> {
            int[] others = {0, 1, 45, 47, 109, 111, 113, 115, 117, 118, 120, 123, 125, 78, 46 + 256, 110 + 256,
                32767, 32768, 65535};
            Bench x = t.bench(SIGNS, others);
            for (int k = 1; k <= others.length; k++) {
                t.due(x.play(1), 1);
                t.playing(x, k, 0, 0, 0, 0, 0, k);
            }
        }, () -> new Model() {
            @Override
            void step(int sign) {
                super.step(sign == 78 ? 110 : sign);
            }
        }, () -> new Model() {
            @Override
            void step(int sign) {
                super.step(sign == 302 ? 46 : sign);
            }
        }, () -> new Model() {
            @Override
            void step(int sign) {
                super.step(sign);
                if (sign == 0) blanks--;
            }
        });
    }

    private void blanksOfLowestBits() {
        sentence(OTHERS, "not a number that is stored as one of the six signs", t -> {
            Bench x = t.bench(SIGNS, 65536 + 46, 65536 + 110, 65536 + 116, -65536 + 124, -65536 + 114, -65536 + 119);
            t.due(x.play(200), 6);
            t.playing(x, 6, 2, 0, 3, 1, 8, 0);
        }, () -> new Model() {
            @Override
            BigInteger kept(String lane, BigInteger v) {
                return lane.equals("SIGNS") ? v : super.kept(lane, v);
            }
        });
    }

    private void headGrowsByOne() {
        sentence(THEN, "each of the signs, and others", t -> {
            Bench x = t.roll(".nt|rw ");
            for (int k = 1; k <= 7; k++) {
                t.due(x.play(1), 1);
                t.due(x.count(HEAD), k);
            }
        }, () -> new Model() {
            @Override
            void step(int sign) {
                super.step(sign);
                if (sign == 32) head++;
            }
        }, () -> new Model() {
            @Override
            void step(int sign) {
                super.step(sign);
                if (sign == 124) head--;
            }
        }, () -> new Model() {
            @Override
            void step(int sign) {
                super.step(sign);
                if (sign == 114) head--;
            }
        });
    }

    private void headGrowsToSixty() {
        sentence(THEN, "to 60, behind the last of 60 cells, and no further", t -> {
            Bench x = t.bench();
            x.mount(SIGNS, 60);
            t.due(x.play(59), 59);
            t.due(x.count(HEAD), 59);
            t.due(x.play(200), 1);
            t.due(x.count(HEAD), 60);
            t.due(x.play(200), 0);
            t.playing(x, 60, 0, 0, 0, 0, 0, 60);
        }, () -> new Model() {
            @Override
            void step(int sign) {
                super.step(sign);
                head = Math.min(head, 59);
            }
        }, () -> new Model() {
            @Override
            void step(int sign) {
                super.step(sign);
                head %= 60;
            }
        });
    }

    private void headAtMarkAndNoJump() {
        sentence(THEN, "a 114 that did not jump lets HEAD grow, though HEAD is MARK", t -> {
            for (int ticks : new int[] {0, -5}) {
                Bench x = t.roll("r.");
                t.write(x, TICKS, ticks, 3);
                t.due(x.play(1), 1);
                t.playing(x, 1, 0, 0, 0, 0, 0, 0);
                t.due(x.play(200), 1);
                t.playing(x, 2, 3, 0, 0, 0, 0, 0);
            }
        }, () -> new Model() {
            @Override
            void step(int sign) {
                boolean wrong = sign == 114 && head == mark;
                super.step(sign);
                if (wrong) head = mark;
            }
        });
    }

    /** A bench in which, at one sign, a lane that has no such cell tells another number than is due. */
    private static Model otherwise(int atSign, String ofLane, int told) {
        return new Model() {
            @Override
            BigInteger told(String lane, int otherwise) {
                boolean wrong = lane.equals(ofLane) && !tells(lane) && super.told("SIGNS", -1).intValue() == atSign;
                return wrong ? BigInteger.valueOf(told) : super.told(lane, otherwise);
            }
        };
    }
}
