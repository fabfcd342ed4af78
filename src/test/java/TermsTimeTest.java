/** "Terms": what is done behind a row that was TAKEN: the WINDOW and the TIMERS. */
public final class TermsTimeTest {
    private static final Checks CHECKS = new Checks();
    private static final long MOST_TIME = 1L << 40;

    public static void main(String[] args) {
        CHECKS.sentence("If there is a WINDOW (above 0)", TermsTimeTest::withoutAWindowNoneLeaves);
        CHECKS.sentence("whose time is below THE WATERMARK less WINDOW", TermsTimeTest::rowsBelowTheWindowLeave);
        CHECKS.sentence("THE WATERMARK less WINDOW, when that is below 0", TermsTimeTest::noneLeavesBelow0);
        CHECKS.sentence("rows leave all keys", TermsTimeTest::rowsLeaveAllKeys);
        CHECKS.sentence("rows leave, at once", TermsTimeTest::lateRowsLeaveAtOnce);
        CHECKS.sentence("with a PERIOD above 0", TermsTimeTest::withoutAPeriodThereIsNoOutput);
        CHECKS.sentence("for each multiple m of it", TermsTimeTest::multiplesOfThePeriod);
        CHECKS.sentence("above the one done latest", TermsTimeTest::eachMultipleOnce);
        CHECKS.sentence("above the one done latest, without an OUTPUT", TermsTimeTest::doneWithoutAnOutput);
        CHECKS.sentence("(at first above 0)", TermsTimeTest::atFirstAbove0);
        CHECKS.sentence("up to THE WATERMARK", TermsTimeTest::upToTheWatermark);
        CHECKS.sentence("the least first", TermsTimeTest::theLeastFirst);
        CHECKS.sentence("each key, in the order in which they came first", TermsTimeTest::keysAsTheyCameFirst);
        CHECKS.sentence("that has rows whose time is below m", TermsTimeTest::keysWithRowsBelow);
        CHECKS.sentence("m, the key, and what each fold's STATE is of these rows alone",
            TermsTimeTest::statesOfTheseRows);
        CHECKS.sentence("(But rows that leave at once with this WATERMARK are not among them.)",
            TermsTimeTest::rowsThatLeaveAreNotAmongThem);
        CHECKS.sentence("If there are more than 20 such m", TermsTimeTest::twentyOfMoreAtOnce);
        CHECKS.sentence("the 20 greatest are done alone", TermsTimeTest::theOthersAreNeverDone);
        CHECKS.end();
    }

    private static void outputIs(String what, KeyedFolds x, int k, long... want) {
        for (int i = 0; i < want.length; i++) {
            int one = i;
            CHECKS.due(what + ", output " + k + ", what " + i, want[i], () -> x.output(k, one));
        }
    }

    private static void withoutAWindowNoneLeaves() {
        int[] windows = {-1, 0, 1};
        for (int window : windows) {
            KeyedFolds x = Made.of(0, window, 0, 0, 0);
            x.row(1, 0, 1);
            x.row(2, MOST_TIME, 1);
            CHECKS.due("left, window " + window, window == 1 ? 1 : 0, () -> x.told(8));
            CHECKS.due("rows, window " + window, window == 1 ? 0 : 1, () -> x.key(1, 0));
        }
    }

    private static void rowsBelowTheWindowLeave() {
        int[] windows = {1, 10, 100000};
        int[] lateness = {0, 5};
        for (int window : windows) {
            for (int late : lateness) {
                KeyedFolds x = Made.of(late, window, 0, 0, 0);
                String what = "window " + window + ", lateness " + late;
                x.row(1, 100, 1);
                x.row(1, 101, 2);
                x.row(2, 100 + window + late, 1);
                CHECKS.due(what + ", at its end", 2, () -> x.key(1, 0));
                CHECKS.due(what + ", left", 0, () -> x.told(8));
                x.row(2, 101 + window + late, 1);
                CHECKS.due(what + ", one below its end", 1, () -> x.key(1, 0));
                CHECKS.due(what + ", the row that is left", 101, () -> x.rowOf(1, 0, 0));
                CHECKS.due(what + ", its state", 2, () -> x.state(1, 0));
                CHECKS.due(what + ", left", 1, () -> x.told(8));
            }
        }
    }

    private static void noneLeavesBelow0() {
        KeyedFolds x = Made.of(100000, 100000, 0, 0, 0);
        x.row(1, 0, 1);
        CHECKS.due("far below 0", 1, () -> x.key(1, 0));
        x.row(2, 199999, 1);
        CHECKS.due("one below 0", 1, () -> x.key(1, 0));
        x.row(2, 200000, 1);
        CHECKS.due("at 0", 1, () -> x.key(1, 0));
        x.row(2, 200001, 1);
        CHECKS.due("at 1", 0, () -> x.key(1, 0));
    }

    private static void rowsLeaveAllKeys() {
        KeyedFolds x = Made.of(0, 10, 0, 0, 0);
        for (int key = 0; key < 30; key++) {
            x.row(key, 0, 1);
        }
        x.row(15, 10, 1);
        CHECKS.due("none leaves", 0, () -> x.told(8));
        x.row(15, 11, 1);
        CHECKS.due("one of each", 30, () -> x.told(8));
        for (int key = 0; key < 30; key++) {
            int one = key;
            CHECKS.due("rows of key " + key, key == 15 ? 2 : 0, () -> x.key(one, 0));
        }
        CHECKS.due("they stay keys", 30, () -> x.told(1));
    }

    private static void lateRowsLeaveAtOnce() {
        KeyedFolds x = Made.of(0, 10, 0, 0, 0);
        x.rule(0, 2);
        x.row(1, 50, 1);
        CHECKS.due("at the window's end", 0, () -> x.row(1, 40, 2));
        CHECKS.due("it stays", 2, () -> x.key(1, 0));
        CHECKS.due("one below", 0, () -> x.row(1, 39, 4));
        CHECKS.due("it has left", 2, () -> x.key(1, 0));
        CHECKS.due("without it", 3, () -> x.state(1, 0));
        CHECKS.due("of a new key", 0, () -> x.row(2, 39, 4));
        CHECKS.due("its rows", 0, () -> x.key(2, 0));
        CHECKS.due("its state is the start", 0, () -> x.state(2, 0));
        CHECKS.due("left", 2, () -> x.told(8));
        CHECKS.due("taken", 4, () -> x.told(4));
    }

    private static void withoutAPeriodThereIsNoOutput() {
        int[] periods = {-1, 0, 1};
        for (int period : periods) {
            KeyedFolds x = Made.of(0, 0, 0, period, 0);
            x.row(1, 0, 1);
            x.row(1, 1, 1);
            CHECKS.due("outputs, period " + period, period == 1 ? 1 : 0, () -> x.told(3));
        }
    }

    private static void multiplesOfThePeriod() {
        KeyedFolds x = Made.of(0, 0, 0, 7, 6);
        x.row(1, 0, 1);
        x.row(1, 20, 1);
        outputIs("period 7", x, 0, 7, 1, 1);
        outputIs("period 7", x, 1, 14, 1, 1);
        CHECKS.due("outputs", 2, () -> x.told(3));
        x.row(1, 21, 1);
        outputIs("period 7", x, 2, 21, 1, 2);
        CHECKS.due("outputs", 3, () -> x.told(3));
    }

    private static void eachMultipleOnce() {
        KeyedFolds x = Made.of(0, 0, 0, 10, 6);
        x.row(1, 5, 1);
        x.row(1, 10, 1);
        CHECKS.due("the first", 1, () -> x.told(3));
        x.row(1, 10, 1);
        x.row(2, 19, 1);
        CHECKS.due("not again", 1, () -> x.told(3));
        x.rule(0, 2);
        x.row(1, 1, 1);
        CHECKS.due("not for a late row", 1, () -> x.told(3));
        outputIs("it stays as it was", x, 0, 10, 1, 1);
        x.row(1, 20, 1);
        outputIs("the next", x, 1, 20, 1, 4);
        outputIs("the next", x, 2, 20, 2, 1);
        CHECKS.due("of two keys", 3, () -> x.told(3));
    }

    private static void doneWithoutAnOutput() {
        KeyedFolds x = Made.of(0, 0, 0, 10, 6);
        x.row(1, 25, 1);
        CHECKS.due("10 and 20 are done", 0, () -> x.told(3));
        x.rule(0, 2);
        x.row(1, 5, 1);
        CHECKS.due("a row below them comes late", 0, () -> x.told(3));
        x.row(1, 30, 1);
        CHECKS.due("30 alone", 1, () -> x.told(3));
        outputIs("30 alone", x, 0, 30, 1, 2);
    }

    private static void atFirstAbove0() {
        KeyedFolds x = Made.of(5, 0, 0, 1, 6);
        x.row(1, 0, 1);
        CHECKS.due("a watermark below 0", 0, () -> x.told(3));
        x.row(1, 5, 1);
        CHECKS.due("a watermark of 0", 0, () -> x.told(3));
        x.row(1, 6, 1);
        CHECKS.due("a watermark of 1", 1, () -> x.told(3));
        outputIs("a watermark of 1", x, 0, 1, 1, 1);
        KeyedFolds below = Made.of(100000, 0, 0, 7, 6);
        below.row(1, 0, 1);
        below.row(1, 100006, 1);
        CHECKS.due("from far below 0 to below the first", 0, () -> below.told(3));
        below.row(1, 100007, 1);
        CHECKS.due("at the first", 1, () -> below.told(3));
    }

    private static void upToTheWatermark() {
        int[] lateness = {0, 3};
        for (int late : lateness) {
            KeyedFolds x = Made.of(late, 0, 0, 100000, 6);
            x.row(1, 0, 1);
            x.row(2, 99999 + late, 1);
            CHECKS.due("one below m, lateness " + late, 0, () -> x.told(3));
            x.row(3, 100000 + late, 1);
            CHECKS.due("at m, lateness " + late, late == 0 ? 2 : 1, () -> x.told(3));
            outputIs("at m, lateness " + late, x, 0, 100000, 1, 1);
        }
    }

    private static void theLeastFirst() {
        KeyedFolds x = Made.of(0, 0, 0, 10, 6);
        x.row(7, 1, 1);
        x.row(8, 15, 1);
        x.row(9, 35, 1);
        long[][] wants = {{10, 7, 1}, {20, 7, 1}, {20, 8, 1}, {30, 7, 1}, {30, 8, 1}};
        for (int k = 0; k < wants.length; k++) {
            outputIs("in order", x, k, wants[k]);
        }
        CHECKS.due("outputs", wants.length, () -> x.told(3));
    }

    private static void keysAsTheyCameFirst() {
        KeyedFolds x = Made.of(100, 50, 0, 100, 6);
        long[] keys = {5, -3, 9, Long.MAX_VALUE, Long.MIN_VALUE};
        for (int i = 0; i < keys.length; i++) {
            x.row(keys[i], 90 - i, 1);
        }
        x.row(-3, 80, 1);
        x.row(9, 200, 1);
        long[] counts = {1, 2, 1, 1, 1};
        for (int k = 0; k < keys.length; k++) {
            outputIs("as they came", x, k, 100, keys[k], counts[k]);
        }
        CHECKS.due("outputs", keys.length, () -> x.told(3));
        x.row(-3, 250, 1);
        x.row(5, 260, 1);
        x.row(9, 400, 1);
        CHECKS.due("two keys whose rows left came again", keys.length + 2, () -> x.told(3));
        outputIs("they keep their places", x, 5, 300, 5, 1);
        outputIs("they keep their places", x, 6, 300, -3, 1);
    }

    private static void keysWithRowsBelow() {
        KeyedFolds x = Made.of(0, 0, 0, 10, 6);
        x.row(1, 8, 1);
        x.row(2, 9, 1);
        x.row(3, 10, 1);
        CHECKS.due("9 is below 10, 10 is not", 2, () -> x.told(3));
        outputIs("below 10", x, 0, 10, 1, 1);
        outputIs("below 10", x, 1, 10, 2, 1);
        x.row(3, 20, 1);
        CHECKS.due("10 is below 20", 5, () -> x.told(3));
        outputIs("below 20", x, 4, 20, 3, 1);
    }

    private static void statesOfTheseRows() {
        long[] below = {17, 7, 3, 7, 5, (5 * 3 + 5) * 3 + 7, 7, 5 ^ 15 ^ 21, 6};
        for (int kind = 0; kind <= 8; kind++) {
            KeyedFolds x = new KeyedFolds(0, 0, 0, 10);
            x.fold(6, 0, 0);
            x.fold(kind, kind == 2 ? 3 : 5, 3);
            x.row(4, 3, 5);
            x.row(4, 9, 7);
            x.row(4, 10, 100);
            outputIs("kind " + kind, x, 0, 10, 4, 2, below[kind]);
            CHECKS.dueThrow("kind " + kind + ", what 4", Checks.INDEX, () -> x.output(0, 4));
            x.row(4, 30, -100);
            outputIs("kind " + kind + ", it stays as it was", x, 0, 10, 4, 2, below[kind]);
        }
    }

    private static void rowsThatLeaveAreNotAmongThem() {
        KeyedFolds x = Made.of(0, 15, 0, 10, 6, 4, 8);
        x.row(1, 4, 1);
        x.row(2, 4, 4);
        x.row(1, 5, 2);
        x.row(1, 9, 3);
        x.row(3, 20, 5);
        CHECKS.due("rows at the window's end and above", 2, () -> x.key(1, 0));
        outputIs("without the row that left", x, 0, 10, 1, 2, 2, 4);
        outputIs("without the row that left", x, 1, 20, 1, 2, 2, 4);
        CHECKS.due("key 2 has none", 2, () -> x.told(3));
        CHECKS.due("left", 2, () -> x.told(8));
    }

    private static void twentyOfMoreAtOnce() {
        int[] multiples = {1, 19, 20, 21, 40};
        for (int many : multiples) {
            KeyedFolds x = Made.of(0, 0, 0, 10, 6);
            x.row(1, 0, 1);
            x.row(1, many * 10 + 9, 1);
            int done = Math.min(20, many);
            CHECKS.due("outputs of " + many, done, () -> x.told(3));
            outputIs("the first of " + many, x, 0, (many - done + 1) * 10, 1, 1);
            outputIs("the last of " + many, x, done - 1, many * 10, 1, 1);
        }
        KeyedFolds far = Made.of(0, 0, 0, 1, 6);
        far.row(1, 0, 1);
        far.row(1, MOST_TIME, 1);
        CHECKS.due("outputs of 2^40", 20, () -> far.told(3));
        outputIs("the first of 2^40", far, 0, MOST_TIME - 19, 1, 1);
        outputIs("the last of 2^40", far, 19, MOST_TIME, 1, 1);
    }

    private static void theOthersAreNeverDone() {
        KeyedFolds x = Made.of(0, 0, 0, 10, 6);
        x.row(1, 0, 1);
        x.row(1, 210, 1);
        CHECKS.due("20 of 21", 20, () -> x.told(3));
        outputIs("the least is left out", x, 0, 20, 1, 1);
        x.row(1, 219, 1);
        CHECKS.due("it is not done later", 20, () -> x.told(3));
        x.row(1, 220, 1);
        CHECKS.due("the next one alone", 21, () -> x.told(3));
        outputIs("the next one", x, 20, 220, 1, 3);
        x.row(1, 420, 1);
        CHECKS.due("20 more", 41, () -> x.told(3));
        outputIs("20 counted from the one done latest", x, 21, 230, 1, 4);
    }
}
