/** "Terms": the time of a row, THE WATERMARK, and LATE, DOUBLE, FAILS and TAKEN in their order. */
public final class TermsRowsTest {
    private static final Checks CHECKS = new Checks();
    private static final long MOST_TIME = 1L << 40;

    public static void main(String[] args) {
        CHECKS.sentence("a time (0 .. 2^40)", TermsRowsTest::timesAreFrom0To2To40);
        CHECKS.sentence("THE WATERMARK is the greatest time", TermsRowsTest::watermarkIsOfTheGreatestTime);
        CHECKS.sentence("that a ROW which was TAKEN had", TermsRowsTest::rowsNotTakenMoveNoWatermark);
        CHECKS.sentence("less LATENESS", TermsRowsTest::watermarkIsLessLateness);
        CHECKS.sentence("none (below all) before the first", TermsRowsTest::noWatermarkBeforeTheFirst);
        CHECKS.sentence("Times, keys, values are longs", TermsRowsTest::keysAndValuesAreAnyLongs);
        CHECKS.sentence("it is LATE, if its time is below THE WATERMARK", TermsRowsTest::lateIsBelowTheWatermark);
        CHECKS.sentence("by the late RULE 0 dropped (1)", TermsRowsTest::lateDropped);
        CHECKS.sentence("1 put ASIDE (2)", TermsRowsTest::latePutAside);
        CHECKS.sentence("2 as if it was not", TermsRowsTest::lateAsIfItWasNot);
        CHECKS.sentence("Then DOUBLE (3): the key has a row of the same v", TermsRowsTest::doubleIsOfOneKeyAndValue);
        CHECKS.sentence("the key has a row", TermsRowsTest::doubleIsOfRowsThatTheKeyHas);
        CHECKS.sentence("whose time is less than ENDS ticks away", TermsRowsTest::doubleIsLessThanEndsAway);
        CHECKS.sentence("(ENDS 0: never)", TermsRowsTest::withoutEndsNoneIsDouble);
        CHECKS.sentence("dropped. Then", TermsRowsTest::doubleIsDropped);
        CHECKS.sentence("if a fold FAILS at v", TermsRowsTest::anyFoldMayFail);
        CHECKS.sentence("(the first one is the CAUSE)", TermsRowsTest::theFirstFoldIsTheCause);
        CHECKS.sentence("by the failing RULE 0 the key is STOPPED (4)", TermsRowsTest::failingStopsTheKey);
        CHECKS.sentence("1 it is put ASIDE (5)", TermsRowsTest::failingPutAside);
        CHECKS.sentence("2 dropped (6)", TermsRowsTest::failingDropped);
        CHECKS.sentence("the STATES stay", TermsRowsTest::statesStayWhenOneFoldFails);
        CHECKS.sentence("Else it is TAKEN (0): it stands among the key's rows", TermsRowsTest::takenStandsAmongTheRows);
        CHECKS.sentence("it is LATE .. Then DOUBLE .. Then, if a fold FAILS", TermsRowsTest::lateThenDoubleThenFails);
        CHECKS.end();
    }

    private static void timesAreFrom0To2To40() {
        long[] times = {Long.MIN_VALUE, -MOST_TIME, -1, MOST_TIME + 1, 2 * MOST_TIME, Long.MAX_VALUE};
        for (long time : times) {
            CHECKS.dueThrow("time " + time, Checks.ARGUMENT, () -> Made.of(0, 0, 0, 0, 0).row(1, time, 1));
        }
        for (long time : new long[] {0, 1, MOST_TIME - 1, MOST_TIME}) {
            KeyedFolds x = Made.of(0, 0, 0, 0, 0);
            CHECKS.due("time " + time, 0, () -> x.row(1, time, 1));
            CHECKS.due("the time that was kept", time, () -> x.rowOf(1, 0, 0));
        }
    }

    private static void watermarkIsOfTheGreatestTime() {
        KeyedFolds x = Made.of(5, 0, 0, 0, 0);
        x.row(1, 20, 1);
        CHECKS.due("the first time", 15, () -> x.watermark());
        x.row(1, 19, 1);
        CHECKS.due("a lower time", 15, () -> x.watermark());
        x.row(2, 20, 1);
        CHECKS.due("the same time", 15, () -> x.watermark());
        x.row(2, 21, 1);
        CHECKS.due("a higher time of another key", 16, () -> x.watermark());
        x.rule(0, 2);
        x.row(1, 0, 1);
        CHECKS.due("a late row that was taken", 16, () -> x.watermark());
    }

    private static void rowsNotTakenMoveNoWatermark() {
        KeyedFolds x = Made.of(0, 0, 5, 0, 0);
        x.failsAt(0, 9);
        x.row(1, 20, 1);
        CHECKS.due("double", 3, () -> x.row(1, 24, 1));
        CHECKS.due("behind a double row", 20, () -> x.watermark());
        for (int rule = 2; rule >= 0; rule--) {
            x.rule(1, rule);
            int code = 4 + rule;
            CHECKS.due("failing", code, () -> x.row(1, MOST_TIME, 9));
            CHECKS.due("behind a row that failed", 20, () -> x.watermark());
        }
        CHECKS.dueThrow("stopped", Checks.STATE, () -> x.row(1, MOST_TIME, 1));
        CHECKS.due("behind a row that was refused", 20, () -> x.watermark());
        CHECKS.due("taken", 0, () -> x.row(2, 21, 1));
        CHECKS.due("behind a row taken", 21, () -> x.watermark());
    }

    private static void watermarkIsLessLateness() {
        int[] lateness = {0, 1, 19, 20, 21, 100000};
        for (int one : lateness) {
            KeyedFolds x = Made.of(one, 0, 0, 0, 0);
            x.row(1, 20, 1);
            CHECKS.due("lateness " + one, 20 - one, () -> x.watermark());
            x.row(1, MOST_TIME, 1);
            CHECKS.due("at the last time, lateness " + one, MOST_TIME - one, () -> x.watermark());
        }
    }

    private static void noWatermarkBeforeTheFirst() {
        KeyedFolds x = Made.of(0, 0, 0, 0, 0);
        CHECKS.dueThrow("at first", Checks.STATE, () -> x.watermark());
        x.failsAt(0, 9);
        for (int rule = 0; rule <= 2; rule++) {
            x.rule(1, rule);
            x.row(rule, 1000, 9);
            CHECKS.dueThrow("behind a row that failed", Checks.STATE, () -> x.watermark());
        }
        CHECKS.due("none was late", 0, () -> x.told(5));
        CHECKS.due("the least time is not late", 0, () -> x.row(3, 0, 1));
        CHECKS.due("there is one", 0, () -> x.watermark());
        CHECKS.due("none was late", 0, () -> x.told(5));
    }

    private static void keysAndValuesAreAnyLongs() {
        long[] longs = {Long.MIN_VALUE, Integer.MIN_VALUE - 1L, -1, 0, 1, 1L << 32, Long.MAX_VALUE};
        KeyedFolds x = Made.of(0, 0, 1, 0, 3);
        for (long one : longs) {
            CHECKS.due("key and value " + one, 0, () -> x.row(one, 7, one));
        }
        CHECKS.due("keys", longs.length, () -> x.told(1));
        for (long one : longs) {
            CHECKS.due("rows of key " + one, 1, () -> x.key(one, 0));
            CHECKS.due("value of key " + one, one, () -> x.rowOf(one, 0, 1));
            CHECKS.due("state of key " + one, one, () -> x.state(one, 0));
            CHECKS.due("another value of the same low half", 0, () -> x.row(one, 7, one ^ 1L << 40));
        }
    }

    private static void lateIsBelowTheWatermark() {
        KeyedFolds x = Made.of(10, 0, 0, 0, 0);
        x.row(1, 10, 1);
        CHECKS.due("at a watermark of 0", 0, () -> x.row(1, 0, 1));
        x.row(1, 11, 1);
        CHECKS.due("below a watermark of 1", 1, () -> x.row(1, 0, 1));
        CHECKS.due("at a watermark of 1", 0, () -> x.row(1, 1, 1));
        x.row(2, 100, 1);
        CHECKS.due("one below", 1, () -> x.row(1, 89, 1));
        CHECKS.due("at it", 0, () -> x.row(1, 90, 1));
        CHECKS.due("one above", 0, () -> x.row(1, 91, 1));
        CHECKS.due("of a key that never came, below", 1, () -> x.row(3, 89, 1));
        CHECKS.due("late ones", 3, () -> x.told(5));
    }

    private static KeyedFolds withAWatermarkOf50() {
        KeyedFolds x = Made.of(0, 0, 0, 0, 0, 5);
        x.row(1, 50, 7);
        return x;
    }

    private static void lateDropped() {
        KeyedFolds x = withAWatermarkOf50();
        CHECKS.due("below", 1, () -> x.row(1, 49, 3));
        CHECKS.due("of a new key", 1, () -> x.row(2, 0, 3));
        CHECKS.due("late ones", 2, () -> x.told(5));
        CHECKS.due("none is put aside", 0, () -> x.told(2));
        CHECKS.due("taken", 1, () -> x.told(4));
        CHECKS.due("keys", 1, () -> x.told(1));
        CHECKS.due("work", 2, () -> x.key(1, 1));
        CHECKS.due("at the watermark it is taken", 0, () -> x.row(1, 50, 3));
    }

    private static void latePutAside() {
        KeyedFolds x = withAWatermarkOf50();
        x.rule(0, 1);
        CHECKS.due("at the watermark it is taken", 0, () -> x.row(1, 50, 3));
        CHECKS.due("none is put aside", 0, () -> x.told(2));
        CHECKS.due("below", 2, () -> x.row(4, 49, 3));
        CHECKS.due("one is put aside", 1, () -> x.told(2));
        CHECKS.due("its key", 4, () -> x.aside(0, 0));
        CHECKS.due("its time", 49, () -> x.aside(0, 1));
        CHECKS.due("its value", 3, () -> x.aside(0, 2));
        CHECKS.due("its cause", -1, () -> x.aside(0, 3));
        CHECKS.due("late ones", 1, () -> x.told(5));
        CHECKS.due("keys", 1, () -> x.told(1));
    }

    private static void lateAsIfItWasNot() {
        KeyedFolds x = withAWatermarkOf50();
        x.rule(0, 2);
        CHECKS.due("below", 0, () -> x.row(1, 49, 3));
        CHECKS.due("it stands in front", 49, () -> x.rowOf(1, 0, 0));
        CHECKS.due("the states have it", (3 * 3 + 7), () -> x.state(1, 1));
        CHECKS.due("of a new key", 0, () -> x.row(2, 0, 3));
        CHECKS.due("keys", 2, () -> x.told(1));
        CHECKS.due("they are counted as late", 2, () -> x.told(5));
        CHECKS.due("and as taken", 3, () -> x.told(4));
        x.rule(0, 0);
        CHECKS.due("the rule of now holds", 1, () -> x.row(1, 49, 4));
    }

    private static void doubleIsOfOneKeyAndValue() {
        KeyedFolds x = Made.of(0, 0, 1, 0, 0);
        x.row(1, 50, 7);
        CHECKS.due("the same value", 3, () -> x.row(1, 50, 7));
        CHECKS.due("one less", 0, () -> x.row(1, 50, 6));
        CHECKS.due("one more", 0, () -> x.row(1, 50, 8));
        CHECKS.due("of another key", 0, () -> x.row(2, 50, 7));
        CHECKS.due("doubles", 1, () -> x.told(6));
    }

    private static void doubleIsOfRowsThatTheKeyHas() {
        KeyedFolds x = Made.of(0, 10, 100, 0, 0);
        x.failsAt(0, 9);
        x.rule(1, 2);
        x.row(1, 50, 7);
        CHECKS.due("failed", 6, () -> x.row(1, 50, 9));
        CHECKS.due("not double of one that failed", 6, () -> x.row(1, 50, 9));
        CHECKS.due("late", 1, () -> x.row(1, 49, 8));
        CHECKS.due("not double of one that was late", 0, () -> x.row(1, 50, 8));
        x.row(2, 60, 1);
        x.rule(0, 2);
        CHECKS.due("double of a row at the window's end", 3, () -> x.row(1, 60, 7));
        x.row(2, 61, 2);
        CHECKS.due("not double of one that left", 0, () -> x.row(1, 61, 7));
        CHECKS.due("double of the second of two rows", 3, () -> x.row(2, 62, 2));
    }

    private static void doubleIsLessThanEndsAway() {
        for (int ends : new int[] {1, 2, 5, 100000}) {
            KeyedFolds x = Made.of(100000, 0, ends, 0, 0);
            x.row(1, 300000, 7);
            CHECKS.due("one less before, ends " + ends, 3, () -> x.row(1, 300000 - ends + 1, 7));
            CHECKS.due("one less behind, ends " + ends, 3, () -> x.row(1, 300000 + ends - 1, 7));
            CHECKS.due("before, ends " + ends, 0, () -> x.row(1, 300000 - ends, 7));
            CHECKS.due("behind, ends " + ends, 0, () -> x.row(1, 300000 + ends, 7));
        }
        KeyedFolds far = Made.of(0, 0, 100000, 0, 0);
        far.row(1, 0, 7);
        CHECKS.due("2^32 ticks away", 0, () -> far.row(1, 1L << 32, 7));
        CHECKS.due("2^40 ticks away", 0, () -> far.row(1, MOST_TIME, 7));
    }

    private static void withoutEndsNoneIsDouble() {
        KeyedFolds never = Made.of(0, 0, 0, 0, 0);
        never.row(1, 50, 7);
        CHECKS.due("ends 0", 0, () -> never.row(1, 50, 7));
        KeyedFolds one = Made.of(0, 0, 1, 0, 0);
        one.row(1, 50, 7);
        CHECKS.due("ends 1", 3, () -> one.row(1, 50, 7));
    }

    private static void doubleIsDropped() {
        KeyedFolds x = Made.of(0, 0, 5, 0, 0, 5);
        x.row(1, 50, 7);
        CHECKS.due("code", 3, () -> x.row(1, 54, 7));
        CHECKS.due("rows", 1, () -> x.key(1, 0));
        CHECKS.due("work", 2, () -> x.key(1, 1));
        CHECKS.due("state", 7, () -> x.state(1, 0));
        CHECKS.due("taken", 1, () -> x.told(4));
        CHECKS.due("asides", 0, () -> x.told(2));
        CHECKS.due("a row behind the dropped one is not its double", 0, () -> x.row(1, 55, 7));
    }

    private static void anyFoldMayFail() {
        for (int fold = 0; fold < 6; fold++) {
            KeyedFolds x = Made.of(0, 0, 0, 0, 0, 1, 2, 3, 4, 5);
            x.failsAt(fold, 9);
            CHECKS.due("one less, fold " + fold, 0, () -> x.row(1, 0, 8));
            CHECKS.due("one more, fold " + fold, 0, () -> x.row(1, 0, 10));
            CHECKS.due("at it, fold " + fold, 4, () -> x.row(1, 0, 9));
            CHECKS.due("failed ones", 1, () -> x.told(7));
        }
    }

    private static void theFirstFoldIsTheCause() {
        KeyedFolds x = Made.of(0, 0, 0, 0, 0, 1, 2, 3, 4, 5);
        x.rule(1, 1);
        for (int fold = 5; fold >= 0; fold--) {
            x.failsAt(fold, 9);
            x.row(1, 0, 9);
            int k = 5 - fold;
            int cause = fold;
            CHECKS.due("told last of " + (k + 1), cause, () -> x.aside(k, 3));
        }
        x.failsAt(4, 8);
        x.row(1, 0, 8);
        CHECKS.due("a fold behind others that do not fail", 4, () -> x.aside(6, 3));
    }

    private static void failingStopsTheKey() {
        KeyedFolds x = Made.of(0, 0, 0, 0, 0);
        x.failsAt(0, 9);
        x.row(1, 5, 1);
        CHECKS.due("before", 0, () -> x.key(1, 2));
        CHECKS.due("code", 4, () -> x.row(1, 5, 9));
        CHECKS.due("behind it", 1, () -> x.key(1, 2));
        CHECKS.due("another key", 0, () -> x.key(2, 2));
        CHECKS.dueThrow("a row of it", Checks.STATE, () -> x.row(1, 5, 1));
        CHECKS.due("a row of another key", 0, () -> x.row(2, 5, 1));
        CHECKS.due("asides", 0, () -> x.told(2));
        CHECKS.due("failed ones", 1, () -> x.told(7));
    }

    private static void failingPutAside() {
        KeyedFolds x = Made.of(0, 0, 0, 0, 0, 5);
        x.failsAt(1, 9);
        x.rule(1, 1);
        CHECKS.due("code", 5, () -> x.row(4, 6, 9));
        CHECKS.due("asides", 1, () -> x.told(2));
        CHECKS.due("its key", 4, () -> x.aside(0, 0));
        CHECKS.due("its time", 6, () -> x.aside(0, 1));
        CHECKS.due("its value", 9, () -> x.aside(0, 2));
        CHECKS.due("its cause", 1, () -> x.aside(0, 3));
        CHECKS.due("the key is not stopped", 0, () -> x.key(4, 2));
        CHECKS.due("failed ones", 1, () -> x.told(7));
        CHECKS.due("a row of it", 0, () -> x.row(4, 6, 1));
    }

    private static void failingDropped() {
        KeyedFolds x = Made.of(0, 0, 0, 0, 0);
        x.failsAt(0, 9);
        x.rule(1, 2);
        CHECKS.due("code", 6, () -> x.row(4, 6, 9));
        CHECKS.due("asides", 0, () -> x.told(2));
        CHECKS.due("the key is not stopped", 0, () -> x.key(4, 2));
        CHECKS.due("failed ones", 1, () -> x.told(7));
        CHECKS.due("keys", 0, () -> x.told(1));
        CHECKS.due("a row of it", 0, () -> x.row(4, 6, 1));
    }

    private static void statesStayWhenOneFoldFails() {
        for (int rule = 0; rule <= 2; rule++) {
            KeyedFolds x = Made.of(100, 0, 0, 0, 0, 3, 5, 8);
            x.row(1, 50, 1);
            x.row(1, 60, 2);
            x.failsAt(3, 9);
            x.rule(1, rule);
            x.row(1, 55, 9);
            long[] states = {3, 2, 1 * 3 + 2, 10};
            for (int fold = 0; fold < states.length; fold++) {
                int one = fold;
                CHECKS.due("rule " + rule + ", fold " + fold, states[fold], () -> x.state(1, one));
            }
            CHECKS.due("rule " + rule + ", rows", 2, () -> x.key(1, 0));
            CHECKS.due("rule " + rule + ", work", 8, () -> x.key(1, 1));
            CHECKS.due("rule " + rule + ", taken", 2, () -> x.told(4));
        }
    }

    private static void takenStandsAmongTheRows() {
        KeyedFolds x = Made.of(10, 0, 1, 0, 0);
        CHECKS.dueThrow("no row yet", Checks.INDEX, () -> x.rowOf(1, 0, 0));
        CHECKS.due("code", 0, () -> x.row(1, 50, 7));
        CHECKS.due("rows", 1, () -> x.key(1, 0));
        CHECKS.due("its time", 50, () -> x.rowOf(1, 0, 0));
        CHECKS.due("its value", 7, () -> x.rowOf(1, 0, 1));
        CHECKS.due("a double one", 3, () -> x.row(1, 50, 7));
        CHECKS.due("rows behind it", 1, () -> x.key(1, 0));
        CHECKS.due("taken", 1, () -> x.told(4));
    }

    private static void lateThenDoubleThenFails() {
        KeyedFolds x = Made.of(0, 0, 3, 0, 0);
        x.row(1, 50, 7);
        x.row(2, 60, 7);
        x.failsAt(0, 7);
        x.failsAt(0, 8);
        x.rule(1, 2);
        long[] wants = {1, 2, 3};
        for (int rule = 0; rule <= 2; rule++) {
            x.rule(0, rule);
            CHECKS.due("late, double and failing, rule " + rule, wants[rule], () -> x.row(1, 50, 7));
        }
        CHECKS.due("double and failing", 3, () -> x.row(2, 62, 7));
        CHECKS.due("failing alone", 6, () -> x.row(2, 63, 7));
        CHECKS.due("late and failing, rule 2", 6, () -> x.row(1, 50, 8));
        x.rule(0, 1);
        CHECKS.due("late and failing, rule 1", 2, () -> x.row(1, 50, 8));
        CHECKS.due("its cause is the lateness", -1, () -> x.aside(1, 3));
        CHECKS.due("late ones", 5, () -> x.told(5));
        CHECKS.due("doubles", 2, () -> x.told(6));
        CHECKS.due("failed ones", 2, () -> x.told(7));
    }
}
