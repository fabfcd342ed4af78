import java.util.Random;

/** Runs of as many calls as an object is used for, the same each time, whose answers are those of the plain model. */
public final class ModelRunsTest {
    private static final int RUNS = 3000;
    private static final int CALLS = 512;
    private static final long LAST_TIME = 1L << 40;
    private static final Checks CHECKS = new Checks();
    private final Random random;
    private final String name;
    private final KeyedFolds x;
    private final PlainModel model;
    private final int keys;
    private final int values;
    private final int step;
    private final int spread;
    private final int reads;
    private final long keySpan;
    private long now;

    private ModelRunsTest(int run) {
        random = new Random(run);
        name = "run " + run;
        int lateness = of(0, 5, 20, 200000);
        int window = of(0, 1, 15, 60, 200000);
        int ends = of(0, 0, 1, 4, -3, 100001);
        int period = of(0, 1, 7, 30, 100001);
        x = new KeyedFolds(lateness, window, ends, period);
        model = new PlainModel(lateness, window, ends, period);
        keys = of(1, 2, 5, 35);
        values = of(3, 10, 1000);
        step = of(0, 1, 5, 40, 100000);
        spread = of(1, 10, 100);
        reads = of(30, 60);
        keySpan = random.nextInt(3) == 0 ? Long.MIN_VALUE / 16 + 1 : 1;
        now = random.nextInt(5) == 0 ? LAST_TIME - of(0, 300, 20000) : 0;
    }

    public static void main(String[] args) {
        for (int run = 0; run < RUNS && CHECKS.allRight(); run++) {
            new ModelRunsTest(run).go();
        }
        CHECKS.end();
    }

    private int of(int... choices) {
        return choices[random.nextInt(choices.length)];
    }

    private void go() {
        int first = random.nextInt(9);
        for (int i = 0; i < CALLS && CHECKS.allRight(); i++) {
            if (i < first) {
                makeFold();
            } else if (random.nextInt(100) < reads) {
                read();
            } else {
                act();
            }
        }
    }

    private void act() {
        int choice = random.nextInt(100);
        if (choice < 3) {
            makeFold();
        } else if (choice < 5) {
            int fold = fold();
            long v = value();
            both("failsAt", () -> x.failsAt(fold, v), () -> model.failsAt(fold, v));
        } else if (choice < 10) {
            int which = random.nextInt(20) == 0 ? 2 : random.nextInt(2);
            int rule = random.nextInt(5) - 1;
            both("rule", () -> x.rule(which, rule), () -> model.rule(which, rule));
        } else if (choice < 20) {
            long key = key(keys);
            both("resume", Checks.act(() -> x.resume(key)), Checks.act(() -> model.resume(key)));
        } else {
            comeRow();
        }
    }

    private void makeFold() {
        int kind = random.nextInt(10) == 0 ? of(-1, 9) : random.nextInt(9);
        long start = random.nextBoolean() ? random.nextInt(20) - 10 : random.nextBoolean() ? 0 : random.nextLong();
        long p = random.nextLong();
        both("fold", () -> x.fold(kind, start, p), () -> model.fold(kind, start, p));
    }

    private void comeRow() {
        now = Math.min(LAST_TIME + 2, now + random.nextInt(step + 1));
        long key = key(keys);
        long time = random.nextInt(300) == 0 ? of(-1, 0) : now - random.nextInt(spread);
        long v = value();
        both("row(" + key + ", " + time + ", " + v + ")", () -> x.row(key, time, v), () -> model.row(key, time, v));
    }

    private long key(int bound) {
        return random.nextInt(bound) * keySpan;
    }

    private long value() {
        long v = random.nextInt(values);
        return values == 1000 ? v * 0x9E3779B97F4A7C15L : v;
    }

    /** Mostly a fold that is there. */
    private int fold() {
        return random.nextInt(10) == 0 ? of(-1, 6) : random.nextInt(Math.max(1, model.told(0)));
    }

    /** Mostly a number below the bound, at times one beside it. */
    private int below(int bound) {
        return random.nextInt(12) == 0 ? of(-1, bound) : random.nextInt(Math.max(1, bound));
    }

    private void read() {
        long key = key(keys + 1);
        int fold = fold();
        int count = below(9);
        switch (random.nextInt(9)) {
            case 0 -> both("state", () -> x.state(key, fold), () -> model.state(key, fold));
            case 1 -> both("told(" + count + ")", () -> x.told(count), () -> model.told(count));
            case 2 -> readKey(key);
            case 3 -> readRow(key);
            case 4 -> readAside();
            case 5 -> readOutput();
            case 6 -> both("watermark", () -> x.watermark(), () -> model.watermark());
            case 7 -> both("folded", () -> x.folded(key), () -> model.folded(key));
            default -> both("joined", () -> x.joined(fold), () -> model.joined(fold));
        }
    }

    private void readKey(long key) {
        int what = below(3);
        both("key(" + key + ", " + what + ")", () -> x.key(key, what), () -> model.key(key, what));
    }

    private void readRow(long key) {
        int i = below(model.key(key, 0));
        int what = below(2);
        String call = "rowOf(" + key + ", " + i + ", " + what + ")";
        both(call, () -> x.rowOf(key, i, what), () -> model.rowOf(key, i, what));
    }

    private void readAside() {
        int k = below(Math.min(102, model.told(2)));
        int what = below(4);
        both("aside(" + k + ", " + what + ")", () -> x.aside(k, what), () -> model.aside(k, what));
    }

    private void readOutput() {
        int k = below(Math.min(302, model.told(3)));
        int what = below(2 + model.told(0));
        both("output(" + k + ", " + what + ")", () -> x.output(k, what), () -> model.output(k, what));
    }

    private void both(String what, Checks.Call got, Checks.Call want) {
        CHECKS.same(name + ": " + what, Checks.outcome(want), Checks.outcome(got));
    }
}
