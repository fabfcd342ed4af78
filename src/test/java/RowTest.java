/** Promises 5 and 6: row, resume. */
public final class RowTest {
    private static final Checks CHECKS = new Checks();
    private static final long MOST_TIME = 1L << 40;

    public static void main(String[] args) {
        wrongRows();
        lateRows();
        doubleRows();
        failingRows();
        lateBeforeDoubleBeforeFailing();
        roomForRows();
        roomForKeys();
        whatThrowsChangesNothing();
        stoppedKeys();
        resumedInAnyOrder();
        manyStoppedKeys();
        CHECKS.end();
    }

    private static KeyedFolds sums(int lateness, int window, int ends, int period) {
        KeyedFolds x = new KeyedFolds(lateness, window, ends, period);
        x.fold(0, 0, 0);
        return x;
    }

    private static void wrongRows() {
        KeyedFolds none = new KeyedFolds(0, 0, 0, 0);
        CHECKS.dueThrow("5: no fold", Checks.STATE, () -> none.row(1, 0, 0));
        CHECKS.dueThrow("5: the time before the folds", Checks.ARGUMENT, () -> none.row(1, -1, 0));
        KeyedFolds x = sums(0, 0, 0, 0);
        CHECKS.dueThrow("5: time -1", Checks.ARGUMENT, () -> x.row(1, -1, 0));
        CHECKS.dueThrow("5: the least time", Checks.ARGUMENT, () -> x.row(1, Long.MIN_VALUE, 0));
        CHECKS.dueThrow("5: time 2^40 + 1", Checks.ARGUMENT, () -> x.row(1, MOST_TIME + 1, 0));
        CHECKS.dueThrow("5: the greatest time", Checks.ARGUMENT, () -> x.row(1, Long.MAX_VALUE, 0));
        CHECKS.dueThrow("5: no row was taken", Checks.STATE, () -> x.watermark());
        CHECKS.due("5: time 0", 0, () -> x.row(Long.MIN_VALUE, 0, Long.MIN_VALUE));
        CHECKS.due("5: time 2^40", 0, () -> x.row(Long.MAX_VALUE, MOST_TIME, Long.MAX_VALUE));
    }

    private static void lateRows() {
        KeyedFolds x = sums(10, 0, 0, 0);
        CHECKS.due("5: none is late at first", 0, () -> x.row(1, 0, 1));
        x.row(1, 100, 1);
        CHECKS.due("5: at the watermark", 0, () -> x.row(1, 90, 1));
        CHECKS.due("5: late, dropped", 1, () -> x.row(1, 89, 1));
        x.rule(0, 1);
        CHECKS.due("5: late, aside", 2, () -> x.row(1, 89, 1));
        CHECKS.due("5: late, aside, of a new key", 2, () -> x.row(9, 0, 1));
        x.rule(0, 2);
        CHECKS.due("5: late, let in", 0, () -> x.row(1, 89, 1));
        CHECKS.due("5: the watermark does not go back", 90, () -> x.watermark());
        CHECKS.due("5: rows", 4, () -> x.key(1, 0));
        CHECKS.due("5: keys", 1, () -> x.told(1));
        CHECKS.due("5: late ones", 4, () -> x.told(5));
    }

    private static void doubleRows() {
        KeyedFolds x = sums(1000, 10, 5, 0);
        x.row(1, 100, 7);
        CHECKS.due("5: 4 before", 3, () -> x.row(1, 96, 7));
        CHECKS.due("5: 4 behind", 3, () -> x.row(1, 104, 7));
        CHECKS.due("5: another value", 0, () -> x.row(1, 100, 8));
        CHECKS.due("5: another key", 0, () -> x.row(2, 100, 7));
        CHECKS.due("5: 5 before", 0, () -> x.row(1, 95, 7));
        CHECKS.due("5: 5 behind", 0, () -> x.row(1, 105, 7));
        CHECKS.due("5: doubles", 2, () -> x.told(6));
        x.row(1, 2000, 1);
        x.rule(0, 2);
        CHECKS.due("5: no double of rows that left", 0, () -> x.row(1, 100, 7));
        KeyedFolds never = sums(0, 0, 0, 0);
        never.row(1, 5, 7);
        CHECKS.due("5: ends 0", 0, () -> never.row(1, 5, 7));
    }

    private static void failingRows() {
        KeyedFolds x = sums(0, 0, 0, 0);
        x.fold(6, 0, 0);
        x.failsAt(1, 7);
        x.row(1, 5, 1);
        x.rule(1, 2);
        CHECKS.due("5: failed, dropped", 6, () -> x.row(1, 50, 7));
        x.rule(1, 1);
        CHECKS.due("5: failed, aside", 5, () -> x.row(1, 50, 7));
        CHECKS.due("5: failed, aside, cause", 1, () -> x.aside(0, 3));
        x.rule(1, 0);
        CHECKS.due("5: failed, stopped", 4, () -> x.row(1, 50, 7));
        CHECKS.due("5: the states stay", 1, () -> x.state(1, 0));
        CHECKS.due("5: the states stay", 1, () -> x.state(1, 1));
        CHECKS.due("5: no work is done", 2, () -> x.key(1, 1));
        CHECKS.due("5: the watermark stays", 5, () -> x.watermark());
        CHECKS.due("5: failed ones", 3, () -> x.told(7));
        CHECKS.due("5: taken ones", 1, () -> x.told(4));
    }

    private static void lateBeforeDoubleBeforeFailing() {
        KeyedFolds x = sums(0, 0, 3, 0);
        x.row(1, 10, 7);
        x.row(2, 50, 7);
        x.failsAt(0, 7);
        x.failsAt(0, 8);
        CHECKS.due("5: late, double and failing, dropped", 1, () -> x.row(1, 11, 7));
        CHECKS.due("5: no double", 0, () -> x.told(6));
        x.rule(0, 2);
        CHECKS.due("5: late, double and failing, let in", 3, () -> x.row(1, 11, 7));
        CHECKS.due("5: none failed", 0, () -> x.told(7));
        CHECKS.due("5: late and failing, let in", 4, () -> x.row(1, 11, 8));
        CHECKS.due("5: late ones", 3, () -> x.told(5));
        CHECKS.dueThrow("5: late, of a stopped key", Checks.STATE, () -> x.row(1, 11, 1));
        CHECKS.due("5: late ones", 3, () -> x.told(5));
    }

    private static void roomForRows() {
        KeyedFolds x = sums(0, 100, 1, 0);
        for (int i = 0; i < 60; i++) {
            int time = i;
            CHECKS.due("5: row " + i, 0, () -> x.row(1, time, 1));
        }
        CHECKS.dueThrow("5: row 60", Checks.STATE, () -> x.row(1, 60, 1));
        CHECKS.dueThrow("5: row 60, though rows would leave", Checks.STATE, () -> x.row(1, 1000, 1));
        CHECKS.due("5: a late row needs no room", 1, () -> x.row(1, 5, 1));
        CHECKS.due("5: a double row needs no room", 3, () -> x.row(1, 59, 1));
        x.rule(1, 2);
        x.failsAt(0, 4);
        CHECKS.due("5: a failing row needs no room", 6, () -> x.row(1, 59, 4));
        x.row(2, 159, 1);
        CHECKS.due("5: 59 have left", 1, () -> x.key(1, 0));
        CHECKS.due("5: there is room again", 0, () -> x.row(1, 159, 1));
    }

    private static void roomForKeys() {
        KeyedFolds x = sums(0, 1, 0, 0);
        x.failsAt(0, 9);
        for (int i = 0; i < 40; i++) {
            int key = 100 + i;
            CHECKS.due("5: stopped keys take no room", 4, () -> x.row(key, 0, 9));
        }
        for (int i = 0; i < 30; i++) {
            int key = i;
            CHECKS.due("5: key " + i, 0, () -> x.row(key, key * 10, 1));
        }
        CHECKS.dueThrow("5: key 30", Checks.STATE, () -> x.row(30, 1000, 1));
        CHECKS.due("5: a key without rows stays a key", 0, () -> x.key(0, 0));
        CHECKS.due("5: a key that is there", 0, () -> x.row(0, 1000, 1));
        CHECKS.due("5: a late row of a new key", 1, () -> x.row(31, 0, 1));
        CHECKS.due("5: a failing row of a new key", 4, () -> x.row(31, 2000, 9));
        CHECKS.due("5: keys", 30, () -> x.told(1));
    }

    private static void whatThrowsChangesNothing() {
        KeyedFolds x = sums(0, 10, 0, 10);
        for (int i = 0; i < 60; i++) {
            x.row(1, 100, i);
        }
        x.rule(0, 2);
        CHECKS.dueThrow("5: late, let in, no room", Checks.STATE, () -> x.row(1, 50, 1));
        CHECKS.due("5: no late one", 0, () -> x.told(5));
        CHECKS.dueThrow("5: no room", Checks.STATE, () -> x.row(1, 500, 1));
        CHECKS.due("5: taken", 60, () -> x.told(4));
        CHECKS.due("5: left", 0, () -> x.told(8));
        CHECKS.due("5: outputs", 0, () -> x.told(3));
        CHECKS.due("5: watermark", 100, () -> x.watermark());
        CHECKS.due("5: work", 60, () -> x.key(1, 1));
        CHECKS.due("5: state", 59 * 30, () -> x.state(1, 0));
    }

    private static void stoppedKeys() {
        KeyedFolds x = sums(0, 0, 0, 0);
        x.failsAt(0, 9);
        CHECKS.dueThrow("6: a key that never came", Checks.STATE, Checks.act(() -> x.resume(1)));
        x.row(1, 0, 1);
        CHECKS.dueThrow("6: a key that is not stopped", Checks.STATE, Checks.act(() -> x.resume(1)));
        x.row(1, 1, 9);
        x.row(2, 1, 9);
        CHECKS.due("6: stopped", 1, () -> x.key(1, 2));
        CHECKS.due("6: stopped without a row", 1, () -> x.key(2, 2));
        CHECKS.dueThrow("5: a stopped key", Checks.STATE, () -> x.row(1, 2, 1));
        CHECKS.dueThrow("5: a stopped key, and it would fail", Checks.STATE, () -> x.row(1, 2, 9));
        CHECKS.dueThrow("5: a stopped key without a row", Checks.STATE, () -> x.row(2, 2, 1));
        CHECKS.dueThrow("5: the time before the stop", Checks.ARGUMENT, () -> x.row(1, -1, 1));
        CHECKS.due("5: another key", 0, () -> x.row(3, 2, 1));
        CHECKS.due("6: resumed", 0, Checks.act(() -> x.resume(1)));
        CHECKS.due("6: not stopped any more", 0, () -> x.key(1, 2));
        CHECKS.due("6: the other is still", 1, () -> x.key(2, 2));
        CHECKS.dueThrow("6: resumed twice", Checks.STATE, Checks.act(() -> x.resume(1)));
        CHECKS.due("6: rows are taken again", 0, () -> x.row(1, 2, 1));
        CHECKS.due("6: it stops again", 4, () -> x.row(1, 2, 9));
        CHECKS.due("6: stopped again", 1, () -> x.key(1, 2));
        CHECKS.due("6: a key that never came is not", 0, () -> x.key(0, 2));
    }

    private static void resumedInAnyOrder() {
        long[][] orders = {{5, 6, 7}, {7, 6, 5}, {6, 5, 7}, {6, 7, 5}};
        for (long[] order : orders) {
            KeyedFolds x = sums(0, 0, 0, 0);
            x.failsAt(0, 9);
            for (long key = 5; key <= 7; key++) {
                x.row(key, 0, 9);
            }
            for (int done = 0; done < 3; done++) {
                x.resume(order[done]);
                for (int i = 0; i < 3; i++) {
                    long key = order[i];
                    CHECKS.due("6: of three keys", i <= done ? 0 : 1, () -> x.key(key, 2));
                }
                CHECKS.due("6: a key that never came is not", 0, () -> x.key(0, 2));
            }
        }
    }

    private static void manyStoppedKeys() {
        KeyedFolds x = sums(0, 0, 0, 0);
        x.failsAt(0, 9);
        for (int i = 0; i < 508; i++) {
            x.row(i, 0, 9);
        }
        CHECKS.due("6: the first", 1, () -> x.key(0, 2));
        CHECKS.due("6: the last", 1, () -> x.key(507, 2));
    }
}
