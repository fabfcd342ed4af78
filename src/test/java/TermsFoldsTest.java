/** "Terms": what folds make of rows, in which order, and the WORK that is counted. */
public final class TermsFoldsTest {
    private static final Checks CHECKS = new Checks();
    private static final long MOST = Long.MAX_VALUE;
    private static final long LEAST = Long.MIN_VALUE;
    private static final boolean[] JOINED = {true, true, true, false, false, false, true, true, false};
    private static final boolean[] TAKEN_BACK = {true, false, false, false, false, false, true, true, false};

    public static void main(String[] args) {
        CHECKS.sentence("sums, products are modulo 2^64", TermsFoldsTest::sumsAndProductsWrap);
        CHECKS.sentence("sums .. modulo 2^64, TAKEN BACK", TermsFoldsTest::wrappedStepsAreTakenBack);
        CHECKS.sentence("FOLDS 0 .. 5, as they were made", TermsFoldsTest::sixFoldsAsTheyWereMade);
        CHECKS.sentence("0 SUM s + v", TermsFoldsTest::sum);
        CHECKS.sentence("1 MOST the greater of s and v", TermsFoldsTest::most);
        CHECKS.sentence("2 LEAST the less", TermsFoldsTest::least);
        CHECKS.sentence("3 LAST v", TermsFoldsTest::last);
        CHECKS.sentence("4 FIRST v at the first row, then s", TermsFoldsTest::first);
        CHECKS.sentence("5 HASH s p + v", TermsFoldsTest::hash);
        CHECKS.sentence("6 COUNT s + 1", TermsFoldsTest::count);
        CHECKS.sentence("7 BITS s ^ (v p)", TermsFoldsTest::bits);
        CHECKS.sentence("8 GAP the greater of s and t less the time of the row before", TermsFoldsTest::gap);
        CHECKS.sentence("(0 at the first)", TermsFoldsTest::gapAtTheFirst);
        CHECKS.sentence("A fold FAILS at up to four values told", TermsFoldsTest::failsAtUpToFourValues);
        CHECKS.sentence("A key's STATES are START with the STEPS", TermsFoldsTest::statesAreStartWithoutRows);
        CHECKS.sentence("in order: by time, of one time as they came", TermsFoldsTest::rowsByTimeThenAsTheyCame);
        CHECKS.sentence("for each fold 1, if it is behind all rows of the key", TermsFoldsTest::workBehindAllRows);
        CHECKS.sentence("or the fold may be JOINED", TermsFoldsTest::workOfFoldsThatMayBeJoined);
        CHECKS.sentence("else as many as rows the key has then", TermsFoldsTest::workOfTheOtherFolds);
        CHECKS.sentence("When rows leave a key together", TermsFoldsTest::workWhenRowsLeaveTogether);
        CHECKS.sentence("as many as leave .. else as many as are left", TermsFoldsTest::workOfEachNumberThatLeaves);
        CHECKS.end();
    }

    /** The state of a fold when rows of these values came, each at its own time. */
    private static void stateIs(String what, long want, KeyedFolds x, long... values) {
        for (int i = 0; i < values.length; i++) {
            x.row(1, 10 * i, values[i]);
        }
        CHECKS.due(what, want, () -> x.state(1, 0));
        CHECKS.due(what + ", folded anew", true, () -> x.folded(1));
        CHECKS.due(what + ", joined", true, () -> x.joined(0));
    }

    private static void sumsAndProductsWrap() {
        stateIs("the greatest sum", MOST, Made.one(0, MOST - 1, 0), 1);
        stateIs("above the greatest sum", LEAST, Made.one(0, MOST, 0), 1);
        stateIs("the least sum", LEAST, Made.one(0, LEAST + 1, 0), -1);
        stateIs("below the least sum", MOST, Made.one(0, LEAST, 0), -1);
        stateIs("the greatest count", MOST, Made.one(6, MOST - 1, 0), 5);
        stateIs("above the greatest count", LEAST, Made.one(6, MOST, 0), 5);
        stateIs("2^62 * 2 - 1", MOST, Made.one(5, 1L << 62, 2), -1);
        stateIs("2^62 * 2", LEAST, Made.one(5, 1L << 62, 2), 0);
        stateIs("2^63 * 2", 1, Made.one(5, LEAST, 2), 1);
        stateIs("2^32 * 2^32", 7, Made.one(5, 1L << 32, 1L << 32), 7);
        stateIs("the product, and the sum", LEAST, Made.one(5, MOST, 1), 1);
        stateIs("bits of 2^62 * 2", LEAST, Made.one(7, 0, 2), 1L << 62);
        stateIs("bits of 2^63 * 2", 6, Made.one(7, 6, 2), LEAST);
    }

    private static void wrappedStepsAreTakenBack() {
        int[] kinds = {0, 6, 7};
        for (int kind : kinds) {
            KeyedFolds x = new KeyedFolds(0, 10, 0, 0);
            x.fold(kind, MOST, MOST);
            x.row(1, 0, MOST);
            x.row(1, 1, LEAST);
            x.row(2, 12, 1);
            CHECKS.due("kind " + kind + ", rows", 0, () -> x.key(1, 0));
            CHECKS.due("kind " + kind + ", the start again", MOST, () -> x.state(1, 0));
        }
    }

    private static void sixFoldsAsTheyWereMade() {
        KeyedFolds x = new KeyedFolds(0, 0, 0, 0);
        for (int i = 0; i < 6; i++) {
            x.fold(0, i * 100, 0);
        }
        x.row(1, 0, 7);
        CHECKS.dueThrow("fold -1", Checks.INDEX, () -> x.state(1, -1));
        for (int i = 0; i < 6; i++) {
            int one = i;
            CHECKS.due("fold " + i, i * 100 + 7, () -> x.state(1, one));
        }
        CHECKS.dueThrow("fold 6", Checks.INDEX, () -> x.state(1, 6));
    }

    private static void sum() {
        stateIs("of one", 3, Made.one(0, 5, 9), -2);
        stateIs("of three", 11, Made.one(0, 5, 9), 1, 2, 3);
    }

    private static void most() {
        stateIs("one less than s", 5, Made.one(1, 5, 0), 4);
        stateIs("as s", 5, Made.one(1, 5, 0), 5);
        stateIs("one more than s", 6, Made.one(1, 5, 0), 6);
        stateIs("the greatest in front", 9, Made.one(1, 5, 0), 9, 7);
        stateIs("far apart", MOST, Made.one(1, LEAST, 0), MOST);
        stateIs("far apart", MOST, Made.one(1, MOST, 0), LEAST);
    }

    private static void least() {
        stateIs("one more than s", 5, Made.one(2, 5, 0), 6);
        stateIs("as s", 5, Made.one(2, 5, 0), 5);
        stateIs("one less than s", 4, Made.one(2, 5, 0), 4);
        stateIs("the least in front", 1, Made.one(2, 5, 0), 1, 3);
        stateIs("far apart", LEAST, Made.one(2, MOST, 0), LEAST);
        stateIs("far apart", LEAST, Made.one(2, LEAST, 0), MOST);
    }

    private static void last() {
        stateIs("of one", 0, Made.one(3, 5, 0), 0);
        stateIs("of two", 2, Made.one(3, 5, 0), 9, 2);
    }

    private static void first() {
        stateIs("of one", 0, Made.one(4, 5, 0), 0);
        stateIs("of three", 9, Made.one(4, 5, 0), 9, 2, 3);
        KeyedFolds x = Made.of(10, 5, 0, 0, 4);
        x.row(1, 10, 1);
        x.row(1, 9, 2);
        CHECKS.due("a row comes in front", 2, () -> x.state(1, 0));
        x.row(1, 9, 3);
        CHECKS.due("a row of the first one's time", 2, () -> x.state(1, 0));
        x.row(2, 25, 4);
        CHECKS.due("the first ones leave", 1, () -> x.state(1, 0));
    }

    private static void hash() {
        stateIs("of one", 5 * 31 + 2, Made.one(5, 5, 31), 2);
        stateIs("of two", (5 * 31 + 2) * 31 + 4, Made.one(5, 5, 31), 2, 4);
        stateIs("p 0", 4, Made.one(5, 5, 0), 2, 4);
        stateIs("p -1", 7, Made.one(5, 5, -1), 2, 4);
    }

    private static void count() {
        stateIs("of one", 6, Made.one(6, 5, 9), 0);
        stateIs("of two", 7, Made.one(6, 5, 9), 3, 3);
    }

    private static void bits() {
        stateIs("of one", 5 ^ 6, Made.one(7, 5, 3), 2);
        stateIs("of one twice", 5, Made.one(7, 5, 3), 2, 2);
        stateIs("of two", 5 ^ 6 ^ 21, Made.one(7, 5, 3), 2, 7);
        stateIs("below 0", 5 ^ -6, Made.one(7, 5, -3), 2);
        stateIs("p 0", 5, Made.one(7, 5, 0), 2);
    }

    private static void gap() {
        for (int start = 9; start <= 11; start++) {
            stateIs("a gap of 10, start " + start, start == 11 ? 11 : 10, Made.one(8, start, 0), 1, 1);
        }
        KeyedFolds x = Made.one(8, 0, 0);
        x.row(1, 0, 1);
        x.row(1, 1L << 40, 1);
        CHECKS.due("the widest gap", 1L << 40, () -> x.state(1, 0));
        x.rule(0, 2);
        x.row(1, 1, 1);
        CHECKS.due("it is parted", (1L << 40) - 1, () -> x.state(1, 0));
        x.row(2, 5, 1);
        CHECKS.due("of each key's own rows", 0, () -> x.state(2, 0));
    }

    private static void gapAtTheFirst() {
        for (int start = -1; start <= 1; start++) {
            KeyedFolds x = Made.one(8, start, 0);
            x.row(1, 50, 1);
            CHECKS.due("start " + start, Math.max(0, start), () -> x.state(1, 0));
        }
        KeyedFolds left = Made.of(0, 10, 0, 0, 8);
        left.row(1, 50, 1);
        left.row(1, 55, 1);
        CHECKS.due("a gap", 5, () -> left.state(1, 0));
        left.row(2, 61, 1);
        CHECKS.due("the row before left: it is the first", 0, () -> left.state(1, 0));
    }

    private static void failsAtUpToFourValues() {
        KeyedFolds x = Made.of(0, 0, 0, 0, 0, 0);
        long[] values = {LEAST, 0, -1, MOST};
        for (long v : values) {
            CHECKS.due("before it was told, " + v, 0, () -> x.row(1, 0, v));
        }
        for (int i = 0; i < 4; i++) {
            long v = values[i];
            CHECKS.due("told " + v, i + 1, () -> x.failsAt(1, v));
        }
        CHECKS.dueThrow("a fifth", Checks.STATE, () -> x.failsAt(1, 1));
        x.rule(1, 2);
        for (long v : values) {
            CHECKS.due("behind that, " + v, 6, () -> x.row(1, 0, v));
        }
        for (long v : new long[] {1, LEAST + 1, -2, MOST - 1}) {
            CHECKS.due("none that was told, " + v, 0, () -> x.row(1, 0, v));
        }
    }

    private static void statesAreStartWithoutRows() {
        for (int kind = 0; kind <= 8; kind++) {
            KeyedFolds x = new KeyedFolds(0, 1, 0, 0);
            x.fold(kind, -77, 5);
            x.row(1, 0, 4);
            x.row(1, 1, 6);
            x.row(2, 2, 1);
            CHECKS.due("kind " + kind + ", one row", 1, () -> x.key(1, 0));
            x.row(2, 3, 1);
            CHECKS.due("kind " + kind + ", no row", 0, () -> x.key(1, 0));
            CHECKS.due("kind " + kind + ", its state", -77, () -> x.state(1, 0));
        }
    }

    private static void rowsByTimeThenAsTheyCame() {
        KeyedFolds x = Made.of(10, 0, 0, 0, 5);
        long[][] come = {{5, 1}, {5, 2}, {4, 3}, {6, 4}, {5, 5}, {4, 6}, {6, 7}};
        long[][] order = {{4, 3}, {4, 6}, {5, 1}, {5, 2}, {5, 5}, {6, 4}, {6, 7}};
        for (long[] row : come) {
            x.row(1, row[0], row[1]);
        }
        long hash = 0;
        for (int i = 0; i < order.length; i++) {
            int one = i;
            CHECKS.due("time of row " + i, order[i][0], () -> x.rowOf(1, one, 0));
            CHECKS.due("value of row " + i, order[i][1], () -> x.rowOf(1, one, 1));
            hash = hash * 3 + order[i][1];
        }
        CHECKS.due("the steps in this order", hash, () -> x.state(1, 0));
    }

    private static void workBehindAllRows() {
        for (int kind = 0; kind <= 8; kind++) {
            KeyedFolds x = Made.of(100, 0, 0, 0, kind);
            String what = "kind " + kind + ", ";
            x.row(1, 50, 1);
            CHECKS.due(what + "the first row", 1, () -> x.key(1, 1));
            x.row(1, 50, 1);
            CHECKS.due(what + "of the last one's time", 2, () -> x.key(1, 1));
            x.row(1, 51, 1);
            CHECKS.due(what + "behind the last one", 3, () -> x.key(1, 1));
            x.row(2, 40, 1);
            CHECKS.due(what + "of a new key, below another's", 1, () -> x.key(2, 1));
            x.row(2, 41, 1);
            CHECKS.due(what + "behind its own", 2, () -> x.key(2, 1));
            x.row(1, 50, 1);
            CHECKS.due(what + "one before the last", 3 + (JOINED[kind] ? 1 : 4), () -> x.key(1, 1));
        }
        KeyedFolds six = Made.of(0, 0, 0, 0, 0, 3, 5, 8, 1, 7);
        six.row(1, 0, 1);
        CHECKS.due("for each fold", 6, () -> six.key(1, 1));
    }

    private static void workOfFoldsThatMayBeJoined() {
        for (int kind : new int[] {0, 1, 2, 6, 7}) {
            KeyedFolds x = Made.of(100, 0, 0, 0, kind);
            for (int i = 1; i <= 60; i++) {
                x.row(1, 100 - i, i);
                CHECKS.due("kind " + kind + ", in front, row " + i, i, () -> x.key(1, 1));
            }
        }
    }

    private static void workOfTheOtherFolds() {
        for (int kind : new int[] {3, 4, 5, 8}) {
            KeyedFolds x = Made.of(100, 0, 0, 0, kind);
            int work = 0;
            for (int i = 1; i <= 60; i++) {
                x.row(1, 100 - i, i);
                work += i;
                int due = work;
                CHECKS.due("kind " + kind + ", in front, row " + i, due, () -> x.key(1, 1));
            }
        }
    }

    private static void workWhenRowsLeaveTogether() {
        KeyedFolds together = Made.of(0, 10, 0, 0, 0, 5);
        KeyedFolds apart = Made.of(0, 10, 0, 0, 0, 5);
        for (int i = 0; i < 4; i++) {
            together.row(1, i, 1);
            apart.row(1, i, 1);
        }
        together.row(2, 10, 1);
        CHECKS.due("none leaves", 8, () -> together.key(1, 1));
        together.row(2, 12, 1);
        CHECKS.due("two leave together", 8 + 2 + 2, () -> together.key(1, 1));
        apart.row(2, 11, 1);
        CHECKS.due("the first leaves", 8 + 1 + 3, () -> apart.key(1, 1));
        apart.row(2, 12, 1);
        CHECKS.due("then the second", 8 + 1 + 3 + 1 + 2, () -> apart.key(1, 1));
        CHECKS.due("of the other key none leaves", 4, () -> apart.key(2, 1));
    }

    private static void workOfEachNumberThatLeaves() {
        for (int kind = 0; kind <= 8; kind++) {
            for (int leave = 0; leave <= 5; leave++) {
                KeyedFolds x = Made.of(0, 10, 0, 0, kind);
                for (int i = 0; i < 5; i++) {
                    x.row(1, i, 1);
                }
                x.row(2, 10 + leave, 1);
                int left = leave == 0 ? 0 : 5 - leave;
                CHECKS.due("rows", 5 - leave, () -> x.key(1, 0));
                int steps = TAKEN_BACK[kind] ? leave : left;
                CHECKS.due("kind " + kind + ", leave " + leave, 5 + steps, () -> x.key(1, 1));
            }
        }
    }
}
