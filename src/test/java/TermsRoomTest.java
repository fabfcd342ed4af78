import java.util.List;

/** "Terms": how many OUTPUTS, ASIDES, keys and rows there are at most, and calls that throw. */
public final class TermsRoomTest {
    private static final Checks CHECKS = new Checks();
    private static final long[] KEYS = {0, 1, 2, 29, 30, 77};

    public static void main(String[] args) {
        CHECKS.sentence("OUTPUTS are 300 at most: further ones are counted alone", TermsRoomTest::outputsAre300AtMost);
        CHECKS.sentence("OUTPUTS are 300 at most, in the midst of a multiple", TermsRoomTest::outputsEndInTheMidst);
        CHECKS.sentence("ASIDE: 100 at most, further ones are counted alone", TermsRoomTest::asidesAre100AtMost);
        CHECKS.sentence("key, time, v, and the CAUSE (- 1: late)", TermsRoomTest::whatAnAsideHolds);
        CHECKS.sentence("Keys are 30 at most", TermsRoomTest::keysAre30AtMost);
        CHECKS.sentence("(those that ever had a row TAKEN)", TermsRoomTest::keysAreThoseThatEverHadARowTaken);
        CHECKS.sentence("rows of a key 60", TermsRoomTest::rowsOfAKeyAre60AtMost);
        CHECKS.sentence("60 at a time", TermsRoomTest::thereIsRoomAgainWhenRowsLeft);
        CHECKS.sentence("Of several the first one in the order of a call", TermsRoomTest::theFirstOfSeveral);
        String nothing = "A call that throws changes nothing";
        CHECKS.sentence(nothing + ", in a new object", TermsRoomTest::nothingChangesInANewObject);
        CHECKS.sentence(nothing + ", without room for a key", TermsRoomTest::nothingChangesWith30Keys);
        CHECKS.sentence(nothing + ", without room for a row", TermsRoomTest::nothingChangesWith60Rows);
        CHECKS.sentence(nothing + ", of a key that is STOPPED", TermsRoomTest::nothingChangesWithAStoppedKey);
        CHECKS.sentence(nothing + ", of a RULE", TermsRoomTest::rulesStay);
        CHECKS.sentence(nothing + ", of the values at which a fold FAILS", TermsRoomTest::failingValuesStay);
        CHECKS.end();
    }

    private static KeyedFolds with30KeysAtTime0() {
        KeyedFolds x = Made.of(0, 0, 0, 1, 0, 6);
        for (int key = 0; key < 30; key++) {
            x.row(key, 0, key);
        }
        return x;
    }

    private static void outputsAre300AtMost() {
        KeyedFolds x = with30KeysAtTime0();
        for (int m = 1; m <= 10; m++) {
            x.row(0, m, 1);
        }
        CHECKS.due("outputs", 300, () -> x.told(3));
        CHECKS.due("m of the last", 10, () -> x.output(299, 0));
        CHECKS.due("key of the last", 29, () -> x.output(299, 1));
        CHECKS.due("a state of the last", 29, () -> x.output(299, 2));
        CHECKS.due("another state of the last", 1, () -> x.output(299, 3));
        CHECKS.dueThrow("output 300", Checks.INDEX, () -> x.output(300, 0));
        x.row(0, 11, 1);
        CHECKS.due("outputs counted alone", 330, () -> x.told(3));
        CHECKS.dueThrow("output 300, counted alone", Checks.INDEX, () -> x.output(300, 0));
        CHECKS.dueThrow("output 329, counted alone", Checks.INDEX, () -> x.output(329, 0));
        CHECKS.due("m of the last stays", 10, () -> x.output(299, 0));
        CHECKS.due("m of the first stays", 1, () -> x.output(0, 0));
        CHECKS.due("key of the first stays", 0, () -> x.output(0, 1));
    }

    private static void outputsEndInTheMidst() {
        KeyedFolds x = Made.of(0, 0, 0, 1, 6);
        for (int key = 0; key < 7; key++) {
            x.row(key, 0, 1);
        }
        x.row(0, 20, 1);
        x.row(0, 40, 1);
        CHECKS.due("outputs", 280, () -> x.told(3));
        x.row(0, 42, 1);
        CHECKS.due("outputs", 294, () -> x.told(3));
        CHECKS.dueThrow("output 294", Checks.INDEX, () -> x.output(294, 0));
        x.row(0, 43, 1);
        CHECKS.due("outputs", 301, () -> x.told(3));
        CHECKS.due("m of the last", 43, () -> x.output(299, 0));
        CHECKS.due("key of the last", 5, () -> x.output(299, 1));
        CHECKS.dueThrow("output 300", Checks.INDEX, () -> x.output(300, 1));
    }

    private static void asidesAre100AtMost() {
        for (int which = 0; which < 2; which++) {
            KeyedFolds x = Made.of(0, 0, 0, 0, 0);
            x.failsAt(0, 9);
            x.rule(0, 1);
            x.rule(1, 1);
            x.row(1, 500, 1);
            long v = which == 0 ? 5 : 9;
            long base = which == 0 ? 0 : 500;
            int counter = which == 0 ? 5 : 7;
            for (int i = 0; i < 100; i++) {
                x.row(2, base + i, v);
            }
            CHECKS.due("asides", 100, () -> x.told(2));
            CHECKS.due("time of the last", base + 99, () -> x.aside(99, 1));
            CHECKS.dueThrow("aside 100", Checks.INDEX, () -> x.aside(100, 0));
            CHECKS.due("a further one", which == 0 ? 2 : 5, () -> x.row(3, base + 100, v));
            CHECKS.due("it is counted", 101, () -> x.told(2));
            CHECKS.dueThrow("it is counted alone", Checks.INDEX, () -> x.aside(100, 0));
            CHECKS.due("time of the last stays", base + 99, () -> x.aside(99, 1));
            CHECKS.due("time of the first stays", base, () -> x.aside(0, 1));
            CHECKS.due("late or failed ones", 101, () -> x.told(counter));
        }
    }

    private static void whatAnAsideHolds() {
        KeyedFolds x = Made.of(0, 0, 0, 0, 0, 1);
        x.rule(0, 1);
        x.rule(1, 1);
        x.failsAt(1, 9);
        x.row(1, 50, 1);
        x.row(Long.MIN_VALUE, 49, Long.MAX_VALUE);
        x.row(Long.MAX_VALUE, 1L << 40, 9);
        x.failsAt(0, 9);
        x.row(-1, 50, 9);
        long[][] wants = {{Long.MIN_VALUE, 49, Long.MAX_VALUE, -1}, {Long.MAX_VALUE, 1L << 40, 9, 1}, {-1, 50, 9, 0}};
        for (int k = 0; k < wants.length; k++) {
            for (int what = 0; what < 4; what++) {
                int line = k;
                int one = what;
                CHECKS.due("aside " + k + ", what " + what, wants[k][what], () -> x.aside(line, one));
            }
        }
    }

    private static void keysAre30AtMost() {
        KeyedFolds x = Made.of(0, 0, 1, 0, 0);
        for (int key = 0; key < 30; key++) {
            int one = key;
            CHECKS.due("key " + key, 0, () -> x.row(one, 0, 1));
        }
        CHECKS.due("keys", 30, () -> x.told(1));
        CHECKS.dueThrow("key 30", Checks.STATE, () -> x.row(30, 0, 1));
        CHECKS.dueThrow("key 30, again", Checks.STATE, () -> x.row(30, 1, 1));
        CHECKS.due("a key that is there", 0, () -> x.row(29, 1, 1));
        CHECKS.due("keys", 30, () -> x.told(1));
    }

    private static void keysAreThoseThatEverHadARowTaken() {
        KeyedFolds x = Made.of(0, 1, 0, 0, 0);
        x.failsAt(0, 9);
        for (int rule = 0; rule <= 2; rule++) {
            x.rule(1, rule);
            x.row(100 + rule, 0, 9);
        }
        CHECKS.due("keys whose rows failed are none", 0, () -> x.told(1));
        for (int key = 0; key < 29; key++) {
            x.row(key, key * 10, 1);
        }
        x.row(103, 0, 1);
        x.rule(0, 1);
        x.row(104, 0, 1);
        CHECKS.due("nor keys whose rows were late", 29, () -> x.told(1));
        CHECKS.due("all rows but one left", 28, () -> x.told(8));
        x.resume(100);
        CHECKS.due("there is room for one", 0, () -> x.row(100, 500, 1));
        CHECKS.dueThrow("and no more, though rows left", Checks.STATE, () -> x.row(101, 500, 1));
        CHECKS.due("a key without rows is still one", 0, () -> x.row(0, 500, 1));
        CHECKS.due("late, of a key for which there is no room", 2, () -> x.row(101, 499, 1));
        CHECKS.due("failing, of a key for which there is no room", 6, () -> x.row(101, 500, 9));
        CHECKS.due("keys", 30, () -> x.told(1));
    }

    private static KeyedFolds with60Rows() {
        KeyedFolds x = Made.of(0, 100, 1, 10, 0, 5);
        for (int i = 0; i < 60; i++) {
            x.row(1, 200 + i / 30, i);
        }
        return x;
    }

    private static void rowsOfAKeyAre60AtMost() {
        KeyedFolds x = Made.of(10, 0, 1, 0, 0);
        for (int i = 0; i < 60; i++) {
            int v = i;
            CHECKS.due("row " + i, 0, () -> x.row(1, 20, v));
        }
        CHECKS.due("rows", 60, () -> x.key(1, 0));
        CHECKS.due("the last one", 59, () -> x.rowOf(1, 59, 1));
        CHECKS.dueThrow("row 60, behind", Checks.STATE, () -> x.row(1, 21, 60));
        CHECKS.dueThrow("row 60, in front", Checks.STATE, () -> x.row(1, 19, 60));
        CHECKS.due("double, without room", 3, () -> x.row(1, 20, 59));
        CHECKS.due("late, without room", 1, () -> x.row(1, 9, 60));
        CHECKS.due("of another key", 0, () -> x.row(2, 21, 60));
        CHECKS.due("rows", 60, () -> x.key(1, 0));
    }

    private static void thereIsRoomAgainWhenRowsLeft() {
        KeyedFolds x = with60Rows();
        CHECKS.dueThrow("though rows would leave with it", Checks.STATE, () -> x.row(1, 1000, 7));
        x.row(2, 300, 7);
        CHECKS.dueThrow("none has left", Checks.STATE, () -> x.row(1, 300, 7));
        x.row(2, 301, 7);
        CHECKS.due("thirty have left", 30, () -> x.key(1, 0));
        for (int i = 0; i < 30; i++) {
            int v = i;
            CHECKS.due("there is room again", 0, () -> x.row(1, 301, v));
        }
        CHECKS.dueThrow("and no more", Checks.STATE, () -> x.row(1, 301, 99));
        CHECKS.due("taken", 92, () -> x.told(4));
    }

    private static void theFirstOfSeveral() {
        KeyedFolds none = new KeyedFolds(0, 0, 0, 0);
        CHECKS.dueThrow("row: the time, then no fold", Checks.ARGUMENT, () -> none.row(1, -1, 1));
        CHECKS.dueThrow("row: no fold", Checks.STATE, () -> none.row(1, 0, 1));
        KeyedFolds six = Made.of(0, 0, 0, 0, 0, 0, 0, 0, 0, 0);
        CHECKS.dueThrow("fold: the kind, then six", Checks.ARGUMENT, () -> six.fold(9, 0, 0));
        CHECKS.dueThrow("fold: six", Checks.STATE, () -> six.fold(8, 0, 0));
        for (int v = 0; v < 4; v++) {
            six.failsAt(5, v);
        }
        CHECKS.dueThrow("failsAt: no such fold, then four", Checks.INDEX, () -> six.failsAt(6, 0));
        CHECKS.dueThrow("failsAt: four", Checks.STATE, () -> six.failsAt(5, 0));
        six.row(1, 0, 9);
        CHECKS.dueThrow("fold: the kind, then a row taken", Checks.ARGUMENT, () -> six.fold(-1, 0, 0));
        six.row(1, 0, 0);
        CHECKS.dueThrow("row: the time, then stopped", Checks.ARGUMENT, () -> six.row(1, (1L << 40) + 1, 1));
        CHECKS.dueThrow("row: stopped", Checks.STATE, () -> six.row(1, 1L << 40, 1));
        KeyedFolds full = with60Rows();
        CHECKS.dueThrow("row: the time, then no room", Checks.ARGUMENT, () -> full.row(1, -1, 99));
        CHECKS.dueThrow("row: no room", Checks.STATE, () -> full.row(1, 201, 99));
    }

    /** Of two objects made alike the one on which calls throw answers the same as the other. */
    private static void nothingChanges(KeyedFolds touched, KeyedFolds untouched, Checks.Call... calls) {
        for (int i = 0; i < calls.length; i++) {
            Object outcome = Checks.outcome(calls[i]);
            boolean isThrown = List.of(Checks.ARGUMENT, Checks.STATE, Checks.INDEX).contains(outcome);
            CHECKS.same("call " + i + " throws", true, isThrown);
        }
        CHECKS.same("what is read", Made.reading(untouched, KEYS), Made.reading(touched, KEYS));
    }

    private static void nothingChangesInANewObject() {
        KeyedFolds x = new KeyedFolds(1, 1, 1, 1);
        nothingChanges(x, new KeyedFolds(1, 1, 1, 1), () -> x.fold(-1, 5, 5), () -> x.fold(9, 5, 5),
            () -> x.failsAt(0, 1), () -> x.rule(0, 3), () -> x.rule(1, 3), () -> x.row(1, 0, 0), () -> x.row(1, -1, 0),
            Checks.act(() -> x.resume(1)), () -> x.state(1, 0), () -> x.key(1, 3), () -> x.rowOf(1, 0, 0),
            () -> x.aside(0, 0), () -> x.output(0, 0), () -> x.watermark(), () -> x.told(9), () -> x.folded(1),
            () -> x.joined(0));
        CHECKS.due("the first fold", 0, () -> x.fold(0, 0, 0));
        CHECKS.due("it fails at none yet", 1, () -> x.failsAt(0, 1));
        CHECKS.due("a row", 0, () -> x.row(1, 0, 0));
    }

    private static void nothingChangesWith30Keys() {
        KeyedFolds x = with30KeysAtTime0();
        nothingChanges(x, with30KeysAtTime0(), () -> x.row(30, 0, 1), () -> x.row(30, 1L << 40, 1),
            () -> x.row(77, 1000, 1), () -> x.row(0, -1, 1), () -> x.row(0, (1L << 40) + 1, 1), () -> x.fold(0, 0, 0),
            () -> x.state(30, 0), () -> x.folded(30), () -> x.rowOf(30, 0, 0), Checks.act(() -> x.resume(30)));
        x.row(0, 1, 1);
        CHECKS.due("no timer was done", 30, () -> x.told(3));
    }

    private static void nothingChangesWith60Rows() {
        KeyedFolds x = with60Rows();
        KeyedFolds untouched = with60Rows();
        x.rule(0, 2);
        untouched.rule(0, 2);
        nothingChanges(x, untouched, () -> x.row(1, 201, 99), () -> x.row(1, 199, 99), () -> x.row(1, 0, 99),
            () -> x.row(1, 1L << 40, 99), () -> x.rowOf(1, 60, 0), () -> x.rowOf(1, 0, 2), () -> x.state(1, 2),
            () -> x.joined(2), () -> x.failsAt(2, 0), () -> x.output(0, 0));
        CHECKS.due("a late row that found no room is not counted", 0, () -> x.told(5));
    }

    private static KeyedFolds withAStoppedKey() {
        KeyedFolds x = Made.of(0, 10, 5, 10, 0, 5);
        x.failsAt(0, 9);
        x.rule(0, 1);
        x.row(1, 50, 1);
        x.row(1, 49, 1);
        x.row(1, 50, 9);
        x.row(2, 50, 9);
        return x;
    }

    private static void nothingChangesWithAStoppedKey() {
        KeyedFolds x = withAStoppedKey();
        nothingChanges(x, withAStoppedKey(), () -> x.row(1, 100, 2), () -> x.row(1, 50, 1), () -> x.row(1, 0, 2),
            () -> x.row(1, 50, 9), () -> x.row(2, 50, 2), () -> x.row(2, 0, 2), Checks.act(() -> x.resume(0)),
            () -> x.failsAt(0, 9), () -> x.aside(1, 0), () -> x.aside(0, 4), () -> x.key(1, -1));
        CHECKS.due("the key is resumed", 0, Checks.act(() -> x.resume(1)));
        CHECKS.due("a row of it", 0, () -> x.row(1, 50, 2));
    }

    private static void rulesStay() {
        KeyedFolds x = new KeyedFolds(0, 0, 0, 0);
        x.rule(0, 1);
        x.rule(1, 2);
        int[][] wrong = {{0, -1}, {0, 3}, {1, -1}, {1, 3}, {-1, 0}, {2, 0}, {2, 3}};
        for (int[] one : wrong) {
            CHECKS.dueThrow("rule " + one[0] + ", " + one[1], Checks.ARGUMENT, () -> x.rule(one[0], one[1]));
        }
        CHECKS.due("the late rule", 1, () -> x.rule(0, 1));
        CHECKS.due("the failing rule", 2, () -> x.rule(1, 2));
    }

    private static void failingValuesStay() {
        KeyedFolds x = Made.of(0, 0, 0, 0, 0, 0);
        x.failsAt(0, 1);
        CHECKS.dueThrow("at that", Checks.STATE, () -> x.failsAt(0, 1));
        CHECKS.due("it was not counted twice", 2, () -> x.failsAt(0, 2));
        x.failsAt(0, 3);
        x.failsAt(0, 4);
        CHECKS.dueThrow("at four", Checks.STATE, () -> x.failsAt(0, 5));
        CHECKS.dueThrow("no such fold", Checks.INDEX, () -> x.failsAt(2, 6));
        for (int v = 1; v <= 6; v++) {
            int one = v;
            CHECKS.due("row of value " + v, v <= 4 ? 4 : 0, () -> x.row(one, 0, one));
        }
    }
}
