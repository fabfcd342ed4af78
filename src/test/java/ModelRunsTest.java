import java.util.List;
import java.util.Random;

/** Long runs of calls, the same each time, whose answers and states are those of the plain model. */
public final class ModelRunsTest {
    private static final int RUNS = 400;
    private static final int CALLS = 512;
    private static final Checks CHECKS = new Checks();
    private final Random random;
    private final String name;
    private final KeyedFolds x;
    private final PlainModel model;
    private final int keys;
    private final int values;
    private final int step;
    private final int spread;
    private long now = 0;

    private ModelRunsTest(int run) {
        random = new Random(run);
        name = "run " + run;
        int lateness = of(0, 5, 20, 200000);
        int window = of(0, 1, 15, 60, 200000);
        int ends = of(0, 0, 1, 4, -3);
        int period = of(0, 1, 7, 30, 100001);
        x = new KeyedFolds(lateness, window, ends, period);
        model = new PlainModel(lateness, window, ends, period);
        keys = of(1, 2, 5, 35);
        values = of(3, 10, 1000);
        step = of(0, 1, 5, 40, 100000);
        spread = of(1, 10, 100);
    }

    public static void main(String[] args) {
        for (int run = 0; run < RUNS && CHECKS.allRight(); run++) {
            new ModelRunsTest(run).go();
        }
        CHECKS.end();
    }

    private int of(int... choices) {
        return choices[random.nextInt(choices.length)];
    }

    private void go() {
        int first = random.nextInt(9);
        for (int i = 0; i < first; i++) {
            makeFold();
        }
        for (int i = 0; i < CALLS && CHECKS.allRight(); i++) {
            act();
            if (i % 8 == 0 || i == CALLS - 1) {
                compareAll();
            }
        }
    }

    private void act() {
        int choice = random.nextInt(100);
        if (choice < 3) {
            makeFold();
        } else if (choice < 5) {
            int fold = random.nextInt(8) - 1;
            long v = value();
            both("failsAt", () -> x.failsAt(fold, v), () -> model.failsAt(fold, v));
        } else if (choice < 10) {
            int which = random.nextInt(20) == 0 ? 2 : random.nextInt(2);
            int rule = random.nextInt(5) - 1;
            both("rule", () -> x.rule(which, rule), () -> model.rule(which, rule));
        } else if (choice < 20) {
            long key = random.nextInt(keys);
            both("resume", Checks.act(() -> x.resume(key)), Checks.act(() -> model.resume(key)));
        } else {
            comeRow();
        }
    }

    private void makeFold() {
        int kind = random.nextInt(10) == 0 ? of(-1, 9) : random.nextInt(9);
        long start = random.nextBoolean() ? 0 : random.nextInt(20) - 10;
        long p = random.nextLong();
        both("fold", () -> x.fold(kind, start, p), () -> model.fold(kind, start, p));
    }

    private void comeRow() {
        now += random.nextInt(step + 1);
        long key = random.nextInt(keys);
        long time = random.nextInt(300) == 0 ? of(-1, 0) : now - random.nextInt(spread);
        long v = value();
        both("row(" + key + ", " + time + ", " + v + ")", () -> x.row(key, time, v), () -> model.row(key, time, v));
    }

    private long value() {
        long v = random.nextInt(values);
        return values == 1000 ? v * 0x9E3779B97F4A7C15L : v;
    }

    private void both(String what, Checks.Call got, Checks.Call want) {
        CHECKS.same(name + ": " + what, Checks.outcome(want), Checks.outcome(got));
    }

    private void compareAll() {
        model.counts[0] = model.folds.size();
        model.counts[1] = model.keys.size();
        model.counts[2] = model.asides.size();
        model.counts[3] = model.outputs.size();
        for (int what = 0; what < 9; what++) {
            int one = what;
            CHECKS.due(name + ": told(" + what + ")", model.counts[what], () -> x.told(one));
        }
        if (model.watermark == null) {
            CHECKS.dueThrow(name + ": watermark()", Checks.STATE, () -> x.watermark());
        } else {
            CHECKS.due(name + ": watermark()", model.watermark, () -> x.watermark());
        }
        for (int key = 0; key < keys; key++) {
            compareKey(key);
        }
        for (int fold = 0; fold < model.folds.size(); fold++) {
            int one = fold;
            CHECKS.due(name + ": joined", true, () -> x.joined(one));
        }
        compareLines("aside", model.asides, 100, (k, what) -> x.aside(k, what));
        compareLines("output", model.outputs, 300, (k, what) -> x.output(k, what));
    }

    private void compareKey(long key) {
        List<PlainModel.Row> rows = model.keys.getOrDefault(key, List.of());
        CHECKS.due(name + ": rows", rows.size(), () -> x.key(key, 0));
        CHECKS.due(name + ": work", model.work.getOrDefault(key, 0), () -> x.key(key, 1));
        CHECKS.due(name + ": stopped", model.stopped.contains(key) ? 1 : 0, () -> x.key(key, 2));
        CHECKS.dueThrow(name + ": a row too far", Checks.INDEX, () -> x.rowOf(key, rows.size(), 0));
        for (int i = 0; i < rows.size(); i++) {
            int one = i;
            CHECKS.due(name + ": time", rows.get(i).time(), () -> x.rowOf(key, one, 0));
            CHECKS.due(name + ": value", rows.get(i).v(), () -> x.rowOf(key, one, 1));
        }
        if (!model.keys.containsKey(key)) {
            CHECKS.dueThrow(name + ": state", Checks.INDEX, () -> x.state(key, 0));
            CHECKS.dueThrow(name + ": folded", Checks.INDEX, () -> x.folded(key));
            return;
        }
        CHECKS.due(name + ": folded", true, () -> x.folded(key));
        for (int f = 0; f < model.folds.size(); f++) {
            int one = f;
            CHECKS.due(name + ": state", model.state(rows, model.folds.get(f)), () -> x.state(key, one));
        }
    }

    private interface Cell {
        long at(int k, int what);
    }

    private void compareLines(String what, List<long[]> lines, int limit, Cell cell) {
        int kept = Math.min(limit, lines.size());
        for (int k = 0; k < kept; k++) {
            int line = k;
            for (int i = 0; i < lines.get(k).length; i++) {
                int one = i;
                CHECKS.due(name + ": " + what + " " + k + ", " + i, lines.get(k)[i], () -> cell.at(line, one));
            }
            CHECKS.dueThrow(name + ": " + what, Checks.INDEX, () -> cell.at(line, lines.get(line).length));
        }
        CHECKS.dueThrow(name + ": " + what + " too far", Checks.INDEX, () -> cell.at(kept, 0));
    }
}
