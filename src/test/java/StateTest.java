/** Promises 7, 14 and 15: state, folded, joined. */
public final class StateTest {
    private static final Checks CHECKS = new Checks();
    private static final long START = 3;
    private static final long P = 5;

    public static void main(String[] args) {
        // The rows are 10: 4, 10: -7, 15: 20, 40: 1; the last two are left when two have left.
        kind(0, 21, 24);
        kind(1, 20, 20);
        kind(2, -7, 1);
        kind(3, 1, 1);
        kind(4, 4, 20);
        kind(5, (((START * P + 4) * P - 7) * P + 20) * P + 1, (START * P + 20) * P + 1);
        kind(6, 7, 5);
        kind(7, START ^ 20 ^ -35 ^ 100 ^ 5, START ^ 100 ^ 5);
        kind(8, 25, 25);
        gapEdges();
        wrapAround();
        severalFolds();
        wrongCalls();
        foldedAndJoinedStayTrue();
        CHECKS.end();
    }

    private static KeyedFolds of(int kind, long start, long p) {
        KeyedFolds x = new KeyedFolds(100, 10, 0, 0);
        x.fold(kind, start, p);
        return x;
    }

    private static void kind(int kind, long all, long whenTwoHaveLeft) {
        int[][] orders = {{0, 1, 2, 3}, {3, 2, 0, 1}, {0, 3, 1, 2}, {2, 0, 3, 1}};
        long[] times = {10, 10, 15, 40};
        long[] values = {4, -7, 20, 1};
        for (int[] order : orders) {
            KeyedFolds x = of(kind, START, P);
            for (int i : order) {
                x.row(1, times[i], values[i]);
            }
            String what = "7: kind " + kind + " from row " + order[0];
            CHECKS.due(what, all, () -> x.state(1, 0));
            CHECKS.due(what + " folded", true, () -> x.folded(1));
            CHECKS.due(what + " joined", true, () -> x.joined(0));
            x.row(2, 121, 1);
            CHECKS.due(what + ", two have left", whenTwoHaveLeft, () -> x.state(1, 0));
            CHECKS.due(what + " folded", true, () -> x.folded(1));
            CHECKS.due(what + " joined", true, () -> x.joined(0));
            x.row(2, 1000, 1);
            CHECKS.due(what + ", all have left", START, () -> x.state(1, 0));
            CHECKS.due(what + " folded", true, () -> x.folded(1));
            CHECKS.due(what + " joined", true, () -> x.joined(0));
        }
    }

    private static void gapEdges() {
        KeyedFolds low = of(8, -9, 0);
        low.row(1, 50, 1);
        CHECKS.due("7: a first row's gap is 0", 0, () -> low.state(1, 0));
        low.row(1, 50, 1);
        CHECKS.due("7: a gap of one time is 0", 0, () -> low.state(1, 0));
        low.row(1, 20, 1);
        CHECKS.due("7: a gap behind a row in front", 30, () -> low.state(1, 0));
        low.row(1, 30, 1);
        CHECKS.due("7: a gap that was parted", 20, () -> low.state(1, 0));
        KeyedFolds high = of(8, 9, 0);
        high.row(1, 50, 1);
        CHECKS.due("7: a start above the gaps", 9, () -> high.state(1, 0));
    }

    private static void wrapAround() {
        long[] wants = {Long.MIN_VALUE, Long.MAX_VALUE, 1, 1, Long.MAX_VALUE,
            (Long.MAX_VALUE * P + Long.MAX_VALUE) * P + 1, 0, Long.MAX_VALUE * P ^ P, 0};
        long[] starts = {0, 0, 5, 0, 0, Long.MAX_VALUE, -2, 0, 0};
        for (int kind = 0; kind <= 8; kind++) {
            KeyedFolds x = of(kind, starts[kind], P);
            x.row(1, 0, Long.MAX_VALUE);
            x.row(1, 0, 1);
            CHECKS.due("7: kind " + kind + " at the edge", wants[kind], () -> x.state(1, 0));
        }
    }

    private static void severalFolds() {
        KeyedFolds x = new KeyedFolds(0, 0, 0, 0);
        x.fold(0, 0, 0);
        x.fold(0, 1000, 0);
        x.fold(3, 5, 0);
        x.row(1, 1, 7);
        x.row(2, 1, 8);
        CHECKS.due("7: fold 0 of key 1", 7, () -> x.state(1, 0));
        CHECKS.due("7: fold 1 of key 1", 1007, () -> x.state(1, 1));
        CHECKS.due("7: fold 2 of key 1", 7, () -> x.state(1, 2));
        CHECKS.due("7: fold 1 of key 2", 1008, () -> x.state(2, 1));
    }

    private static void wrongCalls() {
        KeyedFolds x = of(0, 0, 0);
        x.failsAt(0, 9);
        x.rule(1, 1);
        x.row(1, 0, 1);
        x.row(2, 0, 9);
        CHECKS.dueThrow("7: fold -1", Checks.INDEX, () -> x.state(1, -1));
        CHECKS.dueThrow("7: fold 1", Checks.INDEX, () -> x.state(1, 1));
        CHECKS.dueThrow("7: a key that was put aside", Checks.INDEX, () -> x.state(2, 0));
        CHECKS.dueThrow("7: a key that never came", Checks.INDEX, () -> x.state(3, 0));
        CHECKS.dueThrow("14: a key that was put aside", Checks.INDEX, () -> x.folded(2));
        CHECKS.dueThrow("14: a key that never came", Checks.INDEX, () -> x.folded(3));
        CHECKS.dueThrow("15: fold -1", Checks.INDEX, () -> x.joined(-1));
        CHECKS.dueThrow("15: fold 1", Checks.INDEX, () -> x.joined(1));
        CHECKS.due("15: without keys", true, () -> of(0, 4, 0).joined(0));
    }

    private static void foldedAndJoinedStayTrue() {
        for (int kind = 0; kind <= 8; kind++) {
            KeyedFolds x = new KeyedFolds(60, 20, 0, 7);
            x.fold(kind, -3, 17);
            x.rule(0, 2);
            String what = ": kind " + kind;
            for (int i = 0; i < 120; i++) {
                int key = i % 3;
                x.row(key, i * 37 % 100 + i, i * 7919L - 400000);
                CHECKS.due("14" + what, true, () -> x.folded(key));
                CHECKS.due("15" + what, true, () -> x.joined(0));
            }
        }
    }
}
