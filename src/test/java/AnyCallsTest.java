import java.util.Random;

/**
 * Any arguments in any state, also beyond the calls that an object is used for: a call answers, or throws what the
 * document's face names for it by a throw of its own; what the Java machine or a list throws is wrong.
 */
public final class AnyCallsTest {
    private static final int RUNS = 200;
    private static final int CALLS = 3000;
    private static final long END = 1L << 40;
    private static final Checks CHECKS = new Checks();
    private static final int[] SMALL = {-1, 0, 1, 2, 3, 5, 6, 8, 9, 59, 60, 99, 100, 299, 300, 512,
        Integer.MIN_VALUE, Integer.MAX_VALUE};
    private static final long[] LARGE = {Long.MIN_VALUE, -END, -1, 0, 1, 7, 100000, END - 1, END, END + 1,
        Long.MAX_VALUE};

    private final Random random;
    private final KeyedFolds x;

    private AnyCallsTest(int run) {
        random = new Random(run);
        x = new KeyedFolds(setting(), setting(), setting(), setting());
    }

    public static void main(String[] args) {
        for (int run = 0; run < RUNS && CHECKS.allRight(); run++) {
            AnyCallsTest test = new AnyCallsTest(run);
            for (int i = 0; i < CALLS && CHECKS.allRight(); i++) {
                test.call(run);
            }
        }
        CHECKS.end();
    }

    private int setting() {
        return random.nextInt(3) == 0 ? small() : random.nextInt(50);
    }

    private int small() {
        return random.nextBoolean() ? random.nextInt(4) : SMALL[random.nextInt(SMALL.length)];
    }

    private long large() {
        int choice = random.nextInt(10);
        if (choice == 0) {
            return random.nextLong();
        }
        return choice < 4 ? LARGE[random.nextInt(LARGE.length)] : random.nextInt(400);
    }

    private void call(int run) {
        int a = small();
        int b = small();
        long k = large();
        long t = random.nextInt(50) == 0 ? large() : random.nextInt(4000);
        long v = large();
        String where = "run " + run + ": ";
        switch (random.nextInt(24)) {
            case 0 -> fine(where + "fold", () -> x.fold(a, k, v), Checks.ARGUMENT, Checks.STATE);
            case 1 -> fine(where + "failsAt", () -> x.failsAt(a, v), Checks.INDEX, Checks.STATE);
            case 2 -> fine(where + "rule", () -> x.rule(a, b), Checks.ARGUMENT);
            case 3 -> fine(where + "resume", Checks.act(() -> x.resume(k)), Checks.STATE);
            case 4 -> fine(where + "state", () -> x.state(k, a), Checks.INDEX);
            case 5 -> fine(where + "key", () -> x.key(k, a), Checks.ARGUMENT);
            case 6 -> fine(where + "rowOf", () -> x.rowOf(k, a, b), Checks.INDEX);
            case 7 -> fine(where + "aside", () -> x.aside(a, b), Checks.INDEX);
            case 8 -> fine(where + "output", () -> x.output(a, b), Checks.INDEX);
            case 9 -> fine(where + "watermark", () -> x.watermark(), Checks.STATE);
            case 10 -> fine(where + "told", () -> x.told(a), Checks.ARGUMENT);
            case 11 -> fine(where + "folded", () -> x.folded(k), Checks.INDEX);
            case 12 -> fine(where + "joined", () -> x.joined(a), Checks.INDEX);
            default -> fine(where + "row", () -> x.row(k, t, v), Checks.ARGUMENT, Checks.STATE);
        }
    }

    private static void fine(String what, Checks.Call call, Class<?>... mayBeThrown) {
        Object got = Checks.outcome(call);
        boolean isFine = got instanceof Long || got instanceof Boolean;
        for (Class<?> one : mayBeThrown) {
            isFine = isFine || one.equals(got);
        }
        CHECKS.same(what + ": " + got + ", an answer or an exception of its own", true, isFine);
    }
}
