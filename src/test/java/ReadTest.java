/** Promises 8, 9, 12 and 13: key, rowOf, watermark, told. */
public final class ReadTest {
    private static final Checks CHECKS = new Checks();

    public static void main(String[] args) {
        workOfRowsThatCome();
        workOfRowsThatLeave();
        workOfARowThatLeavesAtOnce();
        keysWithoutRows();
        rowsInOrder();
        watermarks();
        counts();
        CHECKS.end();
    }

    private static KeyedFolds of(int lateness, int window, int... kinds) {
        KeyedFolds x = new KeyedFolds(lateness, window, 0, 0);
        for (int kind : kinds) {
            x.fold(kind, 0, 3);
        }
        return x;
    }

    private static void workOfRowsThatCome() {
        long[] inFront = {1, 1, 1, 3, 3, 3, 1, 1, 3};
        for (int kind = 0; kind <= 8; kind++) {
            KeyedFolds x = of(100, 0, kind);
            x.row(1, 10, 1);
            CHECKS.due("8: the first row, kind " + kind, 1, () -> x.key(1, 1));
            x.row(1, 10, 2);
            CHECKS.due("8: behind one of its time, kind " + kind, 2, () -> x.key(1, 1));
            x.row(1, 9, 2);
            CHECKS.due("8: in front, kind " + kind, 2 + inFront[kind], () -> x.key(1, 1));
            x.row(2, 8, 2);
            CHECKS.due("8: of another key, kind " + kind, 2 + inFront[kind], () -> x.key(1, 1));
            CHECKS.due("8: its own, kind " + kind, 1, () -> x.key(2, 1));
        }
        KeyedFolds both = of(100, 0, 0, 5);
        both.row(1, 10, 1);
        both.row(1, 5, 1);
        CHECKS.due("8: of two folds", 2 + 1 + 2, () -> both.key(1, 1));
    }

    private static void workOfRowsThatLeave() {
        boolean[] takenBack = {true, false, false, false, false, false, true, true, false};
        for (int kind = 0; kind <= 8; kind++) {
            KeyedFolds x = of(0, 10, kind);
            for (int i = 1; i <= 5; i++) {
                x.row(1, i, i);
            }
            x.row(2, 13, 1);
            CHECKS.due("8: rows, kind " + kind, 3, () -> x.key(1, 0));
            CHECKS.due("8: two leave, kind " + kind, 5 + (takenBack[kind] ? 2 : 3), () -> x.key(1, 1));
            x.row(2, 13, 2);
            CHECKS.due("8: none leaves, kind " + kind, 5 + (takenBack[kind] ? 2 : 3), () -> x.key(1, 1));
            x.row(2, 100, 2);
            CHECKS.due("8: no rows, kind " + kind, 0, () -> x.key(1, 0));
            CHECKS.due("8: all leave, kind " + kind, 5 + (takenBack[kind] ? 5 : 3), () -> x.key(1, 1));
        }
    }

    private static void workOfARowThatLeavesAtOnce() {
        KeyedFolds x = of(0, 10, 0, 5);
        x.row(1, 100, 1);
        x.row(1, 101, 1);
        x.rule(0, 2);
        CHECKS.due("5: taken, and leaves", 0, () -> x.row(1, 5, 1));
        CHECKS.due("8: rows", 2, () -> x.key(1, 0));
        CHECKS.due("8: it comes and leaves", 4 + 1 + 3 + 1 + 2, () -> x.key(1, 1));
        CHECKS.due("13: left", 1, () -> x.told(8));
        CHECKS.due("13: taken", 3, () -> x.told(4));
        CHECKS.due("5: a new key's row leaves too", 0, () -> x.row(2, 5, 1));
        CHECKS.due("8: the new key's work", 2 + 1, () -> x.key(2, 1));
        CHECKS.due("13: the new key is one", 2, () -> x.told(1));
        CHECKS.due("7: its state", 0, () -> x.state(2, 0));
    }

    private static void keysWithoutRows() {
        KeyedFolds x = of(0, 0, 0);
        x.failsAt(0, 9);
        for (int what = 0; what <= 2; what++) {
            int one = what;
            CHECKS.due("8: a key that never came, what " + what, 0, () -> x.key(5, one));
        }
        x.row(5, 0, 9);
        CHECKS.due("8: rows of a key that failed alone", 0, () -> x.key(5, 0));
        CHECKS.due("8: work of a key that failed alone", 0, () -> x.key(5, 1));
        CHECKS.due("8: it is stopped", 1, () -> x.key(5, 2));
        CHECKS.dueThrow("8: what 3", Checks.ARGUMENT, () -> x.key(5, 3));
        CHECKS.dueThrow("8: what -1", Checks.ARGUMENT, () -> x.key(5, -1));
        CHECKS.dueThrow("8: what 3 of no key", Checks.ARGUMENT, () -> x.key(6, 3));
    }

    private static void rowsInOrder() {
        KeyedFolds x = of(100, 10, 0);
        long[][] come = {{5, 1}, {3, 2}, {5, 3}, {4, 4}, {3, 5}, {9, 6}};
        for (long[] row : come) {
            x.row(7, row[0], row[1]);
        }
        rowsAre(x, new long[][] {{3, 2}, {3, 5}, {4, 4}, {5, 1}, {5, 3}, {9, 6}});
        CHECKS.dueThrow("9: row -1", Checks.INDEX, () -> x.rowOf(7, -1, 0));
        CHECKS.dueThrow("9: row 6", Checks.INDEX, () -> x.rowOf(7, 6, 0));
        CHECKS.dueThrow("9: row 60", Checks.INDEX, () -> x.rowOf(7, 60, 0));
        CHECKS.dueThrow("9: what 2", Checks.INDEX, () -> x.rowOf(7, 0, 2));
        CHECKS.dueThrow("9: what -1", Checks.INDEX, () -> x.rowOf(7, 0, -1));
        CHECKS.dueThrow("9: no such key", Checks.INDEX, () -> x.rowOf(8, 0, 0));
        x.row(8, 115, 1);
        rowsAre(x, new long[][] {{5, 1}, {5, 3}, {9, 6}});
        CHECKS.dueThrow("9: a row that left", Checks.INDEX, () -> x.rowOf(7, 3, 0));
    }

    private static void rowsAre(KeyedFolds x, long[][] rows) {
        CHECKS.due("8: rows", rows.length, () -> x.key(7, 0));
        for (int i = 0; i < rows.length; i++) {
            int one = i;
            CHECKS.due("9: time of row " + i, rows[i][0], () -> x.rowOf(7, one, 0));
            CHECKS.due("9: value of row " + i, rows[i][1], () -> x.rowOf(7, one, 1));
        }
    }

    private static void watermarks() {
        KeyedFolds x = of(10, 5, 0);
        x.failsAt(0, 9);
        x.rule(1, 2);
        CHECKS.dueThrow("12: at first", Checks.STATE, () -> x.watermark());
        x.row(1, 500, 9);
        CHECKS.dueThrow("12: behind a row that failed", Checks.STATE, () -> x.watermark());
        x.row(1, 0, 1);
        CHECKS.due("12: below 0", -10, () -> x.watermark());
        x.row(2, 50, 1);
        CHECKS.due("12: of all keys", 40, () -> x.watermark());
        x.row(1, 45, 1);
        CHECKS.due("12: the greatest", 40, () -> x.watermark());
        x.row(1, 1L << 40, 1);
        CHECKS.due("12: the last", (1L << 40) - 10, () -> x.watermark());
    }

    private static void counts() {
        KeyedFolds x = new KeyedFolds(0, 20, 2, 10);
        countsAre(x, 0, 0, 0, 0, 0, 0, 0, 0, 0);
        x.fold(0, 0, 0);
        x.fold(5, 0, 0);
        x.failsAt(1, 9);
        x.row(1, 5, 1);
        x.row(1, 6, 1);
        x.row(2, 15, 1);
        countsAre(x, 2, 2, 0, 1, 2, 0, 1, 0, 0);
        x.row(1, 0, 1);
        x.rule(0, 1);
        x.row(1, 0, 1);
        x.rule(0, 2);
        x.row(1, 5, 1);
        countsAre(x, 2, 2, 1, 1, 2, 3, 2, 0, 0);
        x.row(3, 5, 9);
        x.rule(1, 1);
        x.row(4, 15, 9);
        x.rule(1, 2);
        x.row(4, 15, 9);
        countsAre(x, 2, 2, 2, 1, 2, 4, 2, 3, 0);
        x.row(4, 30, 1);
        countsAre(x, 2, 3, 2, 3, 3, 4, 2, 3, 1);
        CHECKS.dueThrow("13: what -1", Checks.ARGUMENT, () -> x.told(-1));
        CHECKS.dueThrow("13: what 9", Checks.ARGUMENT, () -> x.told(9));
    }

    private static void countsAre(KeyedFolds x, int... counts) {
        for (int what = 0; what < counts.length; what++) {
            int one = what;
            CHECKS.due("13: what " + what, counts[what], () -> x.told(one));
        }
    }
}
