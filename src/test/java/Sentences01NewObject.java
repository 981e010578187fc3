import java.util.function.Supplier;

final class Sentences01NewObject extends Sentences {
    private static final String NEW = "All lanes are off, without sheets; HEAD and all others are 0.";

    Sentences01NewObject() {
        super("Promise 1: A new object");
        lanesOff();
        withoutSheets();
        allNought();
        sharesNothing();
    }

    private void lanesOff() {
        sentence(NEW, "each lane is off", t -> {
            Bench x = t.bench();
            for (int lane : LANES) {
                t.due(x.size(lane), OFF);
                t.due(x.strip(lane), OFF);
                t.due(x.cell(lane, 0), OFF);
                t.due(x.put(lane, 0, 1), OFF);
                t.due(x.change(lane, 3, 0, 1), OFF);
            }
            t.due(x.play(200), 0);
        }, () -> new Model() {
            {
                cells.put("SIGNS", zeros(0));
            }
        }, () -> new Model() {
            {
                cells.put("PITCH", zeros(60));
            }
        });
    }

    private void withoutSheets() {
        sentence(NEW, "each lane is without a sheet", t -> {
            Bench x = t.bench();
            for (int lane : LANES) {
                t.due(x.at(lane, 0, 0), NO_SHEET);
                t.due(x.lay(lane, 0, 0), NO_SHEET);
            }
        }, () -> new Model() {
            {
                super.rule(SIGNS, 0, 0);
            }
        }, () -> new Model() {
            {
                super.rule(PITCH, 16, 16);
            }
        });
    }

    private void allNought() {
        sentence(NEW, "every count is 0", t -> {
            Bench x = t.bench();
            for (int what = -1; what <= 17; what++) {
                t.due(x.count(what), 0);
            }
            t.due(x.head(1), 0);
        }, () -> new Model() {
            {
                head = 1;
            }
        }, () -> new Model() {
            {
                outs.put("PITCH", 1);
            }
        }, () -> new Model() {
            {
                notes = 1;
            }
        });
    }

    private void sharesNothing() {
        Bench[] one = {new Model()};
        Supplier<Bench> alwaysTheSame = () -> one[0];
        sentence(NEW, "whatever was done to another object before", t -> {
            Bench used = t.roll("|tn ");
            t.write(used, PITCH, 1, 2, 3);
            used.rule(SIGNS, 2, 2);
            used.lay(SIGNS, 0, 0);
            used.play(4);
            used.cell(SIGNS, 4);
            used.size(TICKS);
            Bench x = t.bench();
            t.playing(x, 0, 0, 0, 0, 0, 0, 0);
            t.refusals(x, 0, 0, 0, 0, 0, 0, 0, 0, 0, 0);
            t.due(x.size(SIGNS), OFF);
            t.due(x.at(SIGNS, 0, 0), NO_SHEET);
            x.mount(SIGNS, 1);
            t.cells(used, SIGNS, '|', 't', 'n', ' ');
        }, alwaysTheSame);
    }
}
