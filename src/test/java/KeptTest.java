/** Promises 10 and 11: aside, output. */
public final class KeptTest {
    private static final Checks CHECKS = new Checks();

    public static void main(String[] args) {
        asides();
        asidesBeyondTheLimit();
        outputsInOrder();
        outputsOfEachKind();
        outputsAtTheEdges();
        outputsOfRowsThatLeave();
        outputsOfManyMoments();
        outputsBeyondTheLimit();
        CHECKS.end();
    }

    private static KeyedFolds of(int lateness, int window, int period, int... kinds) {
        KeyedFolds x = new KeyedFolds(lateness, window, 0, period);
        for (int kind : kinds) {
            x.fold(kind, 0, 3);
        }
        return x;
    }

    private static void asideIs(KeyedFolds x, int k, long... want) {
        for (int what = 0; what < want.length; what++) {
            int one = what;
            CHECKS.due("10: aside " + k + ", what " + what, want[what], () -> x.aside(k, one));
        }
    }

    private static void outputIs(KeyedFolds x, int k, long... want) {
        for (int what = 0; what < want.length; what++) {
            int one = what;
            CHECKS.due("11: output " + k + ", what " + what, want[what], () -> x.output(k, one));
        }
    }

    private static void asides() {
        KeyedFolds x = of(0, 0, 0, 0, 5, 6);
        x.failsAt(2, 8);
        x.failsAt(1, 8);
        x.failsAt(2, 9);
        x.failsAt(0, 7);
        x.rule(0, 1);
        x.rule(1, 1);
        CHECKS.dueThrow("10: none at first", Checks.INDEX, () -> x.aside(0, 0));
        x.row(1, 50, 1);
        x.row(2, 60, 8);
        x.row(Long.MIN_VALUE, 49, Long.MAX_VALUE);
        x.row(3, 1L << 40, 9);
        x.row(3, 51, 7);
        x.row(3, 0, 7);
        asideIs(x, 0, 2, 60, 8, 1);
        asideIs(x, 1, Long.MIN_VALUE, 49, Long.MAX_VALUE, -1);
        asideIs(x, 2, 3, 1L << 40, 9, 2);
        asideIs(x, 3, 3, 51, 7, 0);
        asideIs(x, 4, 3, 0, 7, -1);
        CHECKS.due("13: asides", 5, () -> x.told(2));
        CHECKS.dueThrow("10: aside 5", Checks.INDEX, () -> x.aside(5, 0));
        CHECKS.dueThrow("10: aside -1", Checks.INDEX, () -> x.aside(-1, 0));
        CHECKS.dueThrow("10: what 4", Checks.INDEX, () -> x.aside(0, 4));
        CHECKS.dueThrow("10: what -1", Checks.INDEX, () -> x.aside(1, -1));
    }

    private static void asidesBeyondTheLimit() {
        KeyedFolds x = of(0, 0, 0, 0);
        x.rule(0, 1);
        x.row(1, 500, 1);
        for (int i = 0; i < 102; i++) {
            CHECKS.due("13: asides", i, () -> x.told(2));
            int v = i;
            CHECKS.due("5: put aside", 2, () -> x.row(1, 3, v));
        }
        CHECKS.due("13: asides counted alone", 102, () -> x.told(2));
        asideIs(x, 99, 1, 3, 99, -1);
        CHECKS.dueThrow("10: aside 100", Checks.INDEX, () -> x.aside(100, 0));
        CHECKS.dueThrow("10: aside 101", Checks.INDEX, () -> x.aside(101, 0));
    }

    private static void outputsInOrder() {
        KeyedFolds x = of(5, 0, 10, 0, 3);
        x.failsAt(0, 99);
        x.rule(1, 1);
        x.row(4, 1, 99);
        x.row(9, 12, 5);
        x.row(4, 8, 6);
        x.row(9, 7, 7);
        CHECKS.due("13: no moment yet", 0, () -> x.told(3));
        x.row(7, 14, 8);
        CHECKS.due("13: watermark 9", 0, () -> x.told(3));
        x.row(7, 15, 9);
        outputIs(x, 0, 10, 9, 7, 7);
        outputIs(x, 1, 10, 4, 6, 6);
        CHECKS.due("13: the rows below 10", 2, () -> x.told(3));
        x.row(7, 16, 1);
        CHECKS.due("13: each moment is done once", 2, () -> x.told(3));
        x.row(7, 35, 1);
        outputIs(x, 2, 20, 9, 12, 5);
        outputIs(x, 3, 20, 4, 6, 6);
        outputIs(x, 4, 20, 7, 18, 1);
        outputIs(x, 5, 30, 9, 12, 5);
        outputIs(x, 6, 30, 4, 6, 6);
        outputIs(x, 7, 30, 7, 18, 1);
        CHECKS.due("13: three keys, two moments", 8, () -> x.told(3));
        CHECKS.dueThrow("11: output 8", Checks.INDEX, () -> x.output(8, 0));
        CHECKS.dueThrow("11: output -1", Checks.INDEX, () -> x.output(-1, 0));
        CHECKS.dueThrow("11: what 4, two folds", Checks.INDEX, () -> x.output(0, 4));
        CHECKS.dueThrow("11: what -1", Checks.INDEX, () -> x.output(1, -1));
        x.rule(0, 2);
        x.row(9, 1, 1000);
        outputIs(x, 5, 30, 9, 12, 5);
        CHECKS.due("13: a late row makes none", 8, () -> x.told(3));
    }

    private static void outputsOfEachKind() {
        long[] wants = {6, 4, 0, 2, 4, 4 * 3 + 2, 2, 12 ^ 6, 3};
        for (int kind = 0; kind <= 8; kind++) {
            KeyedFolds x = of(0, 0, 10, kind);
            x.row(1, 4, 4);
            x.row(1, 7, 2);
            x.row(1, 10, 100);
            outputIs(x, 0, 10, 1, wants[kind]);
            CHECKS.dueThrow("11: what 3, one fold", Checks.INDEX, () -> x.output(0, 3));
        }
    }

    private static void outputsAtTheEdges() {
        KeyedFolds x = of(0, 0, 10, 6);
        x.row(1, 10, 1);
        CHECKS.due("13: a row of time m is not below it", 0, () -> x.told(3));
        x.row(1, 19, 1);
        CHECKS.due("13: m is above the watermark", 0, () -> x.told(3));
        x.row(1, 20, 1);
        outputIs(x, 0, 20, 1, 2);
        KeyedFolds zero = of(0, 0, 1, 6);
        zero.row(1, 0, 1);
        CHECKS.due("13: m is above 0", 0, () -> zero.told(3));
        zero.row(1, 1, 1);
        outputIs(zero, 0, 1, 1, 1);
    }

    private static void outputsOfRowsThatLeave() {
        KeyedFolds x = of(0, 15, 10, 0, 4, 8);
        x.row(1, 1, 1);
        x.row(2, 2, 2);
        x.row(1, 5, 4);
        x.row(1, 9, 8);
        x.row(3, 20, 16);
        outputIs(x, 0, 10, 1, 12, 4, 4);
        outputIs(x, 1, 20, 1, 12, 4, 4);
        CHECKS.due("13: without key 2", 2, () -> x.told(3));
    }

    private static void outputsOfManyMoments() {
        KeyedFolds twenty = of(0, 0, 10, 0);
        twenty.row(1, 0, 1);
        twenty.row(1, 209, 1);
        outputIs(twenty, 0, 10, 1, 1);
        outputIs(twenty, 19, 200, 1, 1);
        CHECKS.due("13: twenty", 20, () -> twenty.told(3));
        twenty.row(1, 410, 1);
        outputIs(twenty, 20, 220, 1, 2);
        outputIs(twenty, 39, 410, 1, 2);
        CHECKS.due("13: twenty of twenty-one", 40, () -> twenty.told(3));
        KeyedFolds far = of(0, 0, 100000, 0);
        far.row(1, 0, 1);
        far.row(1, 1L << 40, 1);
        long last = (1L << 40) / 100000 * 100000;
        outputIs(far, 0, last - 1900000, 1, 1);
        outputIs(far, 19, last, 1, 1);
        CHECKS.due("13: twenty of many", 20, () -> far.told(3));
    }

    private static void outputsBeyondTheLimit() {
        KeyedFolds x = of(0, 0, 1, 0, 0, 0, 0, 0, 5);
        for (int key = 0; key < 30; key++) {
            x.row(key, 0, key);
        }
        x.row(0, 9, 1);
        CHECKS.due("13: outputs", 270, () -> x.told(3));
        x.row(0, 11, 1);
        CHECKS.due("13: outputs counted alone", 330, () -> x.told(3));
        outputIs(x, 299, 10, 29, 29, 29, 29, 29, 29, 29);
        outputIs(x, 270, 10, 0, 1, 1, 1, 1, 1, 1);
        CHECKS.dueThrow("11: output 300", Checks.INDEX, () -> x.output(300, 0));
        CHECKS.dueThrow("11: output 329", Checks.INDEX, () -> x.output(329, 0));
        CHECKS.dueThrow("11: what 8", Checks.INDEX, () -> x.output(0, 8));
        x.row(0, 100, 1);
        CHECKS.due("13: outputs counted alone", 930, () -> x.told(3));
    }
}
