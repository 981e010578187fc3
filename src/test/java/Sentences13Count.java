final class Sentences13Count extends Sentences {
    private static final String BY_OFF = "what 0 .. 4: how many calls were refused by OFF of that lane;";
    private static final String BY_OUT = "5 .. 9: by OUT of lane what - 5;";
    private static final String OF_PLAYING =
        "10 HEAD, 11 CLOCK, 12 SHIFT, 13 MARK, 14 NOTES, 15 SOUND, 16 BLANKS;";

    Sentences13Count() {
        super("Promise 13: count");
        byOff();
        byOut();
        byNeither();
        ofPlaying();
        ofPlayingBelowNought();
        others();
        changesNothing();
    }

    private void byOff() {
        sentence(BY_OFF, "the first lane and the last, each its own count", t -> {
            Bench x = t.bench();
            for (int lane : LANES) {
                for (int k = 0; k <= lane; k++) {
                    t.due(x.size(lane), OFF);
                }
            }
            for (int what = 0; what <= 4; what++) {
                t.due(x.count(what), what + 1);
            }
            t.due(x.count(5), 0);
            t.due(x.count(-1), 0);
        }, () -> new Model() {
            @Override
            public int count(int what) {
                return super.count(what == 4 ? 3 : what);
            }
        }, () -> new Model() {
            @Override
            public int count(int what) {
                return super.count(what == 0 ? 17 : what);
            }
        });
    }

    private void byOut() {
        sentence(BY_OUT, "the first lane and the last, each its own count", t -> {
            Bench x = t.bench();
            for (int lane : LANES) {
                x.mount(lane, 0);
                for (int k = 0; k <= lane; k++) {
                    t.due(x.cell(lane, 0), OUT);
                }
            }
            for (int what = 5; what <= 9; what++) {
                t.due(x.count(what), what - 4);
            }
            t.due(x.count(4), 0);
            t.due(x.count(10), 0);
        }, () -> new Model() {
            @Override
            public int count(int what) {
                return super.count(what == 9 ? 8 : what);
            }
        }, () -> new Model() {
            @Override
            public int count(int what) {
                return super.count(what == 5 ? 0 : what);
            }
        });
    }

    private void byNeither() {
        sentence(BY_OFF, "0 when nothing was refused by it, whatever was answered", t -> {
            Bench x = t.bench();
            for (int lane : LANES) {
                x.mount(lane, 1);
                x.size(lane);
                x.cell(lane, 0);
                x.put(lane, 0, 1);
                x.change(lane, 3, 0, 0);
                x.rule(lane, 1, 1);
                x.lay(lane, 0, 1);
                x.at(lane, 0, 0);
                x.strip(lane);
            }
            t.refusals(x, 0, 0, 0, 0, 0, 0, 0, 0, 0, 0);
        }, () -> new Model() {
            @Override
            public int strip(int lane) {
                int answer = super.strip(lane);
                off(lane);
                return answer;
            }
        });
    }

    private void ofPlaying() {
        sentence(OF_PLAYING, "the first and the last, all of them different", t -> {
            Bench x = t.roll(".t|n     n");
            t.write(x, TICKS, 11, 0, 0, 3);
            t.write(x, PITCH, 0, 4, 0, 3);
            t.due(x.play(9), 9);
            int[] due = {9, 14, 4, 2, 1, 29, 5};
            for (int what = 10; what <= 16; what++) {
                t.due(x.count(what), due[what - 10]);
            }
        }, () -> new Model() {
            @Override
            public int count(int what) {
                return super.count(what == 16 ? 14 : what);
            }
        }, () -> new Model() {
            @Override
            public int count(int what) {
                return super.count(what == 10 ? 13 : what == 13 ? 10 : what);
            }
        }, () -> new Model() {
            @Override
            public int count(int what) {
                return super.count(what == 11 ? 15 : what);
            }
        });
    }

    private void ofPlayingBelowNought() {
        sentence(OF_PLAYING, "CLOCK, SHIFT and SOUND below 0", t -> {
            Bench x = t.roll("tn");
            t.write(x, TICKS, 0, -3);
            t.write(x, PITCH, -9, 19);
            t.due(x.play(2), 2);
            t.playing(x, 2, -3, -9, 0, 1, -22, 0);
        }, () -> new Model() {
            @Override
            public int count(int what) {
                return Math.abs(super.count(what));
            }
        }, () -> new Model() {
            @Override
            public int count(int what) {
                return Math.max(0, super.count(what));
            }
        });
    }

    private void others() {
        sentence("0 for others.", "-1, 17, the least and the greatest number", t -> {
            Bench x = t.roll(" |tn.");
            t.write(x, PITCH, 1, 1, 1);
            t.due(x.play(200), 5);
            x.size(TICKS);
            x.cell(SIGNS, 5);
            x.cell(PITCH, 3);
            for (int what : new int[] {-1, -5, -10, 17, 18, 26, 256, 65536 + 10, MIN, MAX}) {
                t.due(x.count(what), 0);
            }
        }, () -> new Model() {
            @Override
            public int count(int what) {
                return super.count(what == 17 ? 16 : what);
            }
        }, () -> new Model() {
            @Override
            public int count(int what) {
                return what == -1 ? NO_LANE : super.count(what);
            }
        }, () -> new Model() {
            @Override
            public int count(int what) {
                return super.count(what == MIN ? 10 : what);
            }
        });
    }

    private void changesNothing() {
        sentence("0 for others.", "asking is no refusal and changes nothing", t -> {
            Bench x = t.roll(" ");
            x.play(1);
            x.size(TICKS);
            x.cell(SIGNS, 1);
            for (int k = 0; k < 2; k++) {
                t.due(x.count(-1), 0);
                t.due(x.count(17), 0);
                t.refusals(x, 0, 1, 0, 0, 0, 1, 0, 0, 0, 0);
                t.playing(x, 1, 0, 0, 0, 0, 0, 1);
            }
        }, () -> new Model() {
            @Override
            public int count(int what) {
                if (what == 17) out(SIGNS, -1, 0);
                return super.count(what);
            }
        }, () -> new Model() {
            @Override
            public int count(int what) {
                int answer = super.count(what);
                if (what == 1) offs.remove("TICKS");
                return answer;
            }
        });
    }
}
