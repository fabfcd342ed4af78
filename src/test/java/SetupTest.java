/** Promises 1 to 4: a new object, fold, failsAt, rule. */
public final class SetupTest {
    private static final Checks CHECKS = new Checks();

    public static void main(String[] args) {
        latenessIsHeldWithinItsBounds();
        windowIsHeldWithinItsBounds();
        endsAreHeldWithinTheirBounds();
        periodIsHeldWithinItsBounds();
        foldsAreNumbered();
        foldsEndWithTheFirstRowTaken();
        failingValues();
        rules();
        CHECKS.end();
    }

    private static KeyedFolds sums(int lateness, int window, int ends, int period) {
        KeyedFolds x = new KeyedFolds(lateness, window, ends, period);
        x.fold(0, 0, 0);
        return x;
    }

    private static void latenessIsHeldWithinItsBounds() {
        int[] given = {Integer.MIN_VALUE, -1, 0, 1, 99999, 100000, 100001, Integer.MAX_VALUE};
        long[] counts = {0, 0, 0, 1, 99999, 100000, 100000, 100000};
        for (int i = 0; i < given.length; i++) {
            KeyedFolds x = sums(given[i], 0, 0, 0);
            x.row(1, 200000, 1);
            CHECKS.due("1: watermark with lateness " + given[i], 200000 - counts[i], () -> x.watermark());
        }
    }

    private static void windowIsHeldWithinItsBounds() {
        int[] given = {-1, 0, 1, 100000, 100001, Integer.MAX_VALUE};
        long[] left = {0, 0, 2, 1, 1, 1};
        for (int i = 0; i < given.length; i++) {
            KeyedFolds x = sums(0, given[i], 0, 0);
            x.row(1, 99, 1);
            x.row(1, 100, 1);
            x.row(1, 100100, 1);
            CHECKS.due("1: left with window " + given[i], left[i], () -> x.told(8));
        }
    }

    private static void endsAreHeldWithinTheirBounds() {
        int[] given = {-1, 0, 1, 100000, 100001, Integer.MAX_VALUE};
        long[] codes = {0, 0, 3, 3, 3, 3};
        for (int i = 0; i < given.length; i++) {
            KeyedFolds x = sums(0, 0, given[i], 0);
            x.row(1, 0, 7);
            CHECKS.due("1: at one time with ends " + given[i], codes[i], () -> x.row(1, 0, 7));
            CHECKS.due("1: 100000 away with ends " + given[i], 0, () -> x.row(1, 100000, 7));
        }
        KeyedFolds most = sums(0, 0, 100001, 0);
        most.row(1, 0, 7);
        CHECKS.due("1: 99999 away with the most ends", 3, () -> most.row(1, 99999, 7));
    }

    private static void periodIsHeldWithinItsBounds() {
        int[] given = {-1, 0, 99999, 100000, 100001, Integer.MAX_VALUE};
        long[] moments = {-1, -1, 99999, 100000, 100000, 100000};
        for (int i = 0; i < given.length; i++) {
            KeyedFolds x = sums(0, 0, 0, given[i]);
            x.row(1, 0, 7);
            x.row(1, 100001, 7);
            if (moments[i] < 0) {
                CHECKS.due("1: outputs with period " + given[i], 0, () -> x.told(3));
            } else {
                CHECKS.due("1: output with period " + given[i], moments[i], () -> x.output(0, 0));
            }
        }
    }

    private static void foldsAreNumbered() {
        KeyedFolds x = new KeyedFolds(0, 0, 0, 0);
        CHECKS.dueThrow("2: kind -1", Checks.ARGUMENT, () -> x.fold(-1, 0, 0));
        CHECKS.dueThrow("2: kind 9", Checks.ARGUMENT, () -> x.fold(9, 0, 0));
        CHECKS.dueThrow("2: least kind", Checks.ARGUMENT, () -> x.fold(Integer.MIN_VALUE, 0, 0));
        CHECKS.due("2: none were made", 0, () -> x.told(0));
        int[] kinds = {8, 0, 8, 3, 5, 1};
        for (int i = 0; i < 6; i++) {
            int kind = kinds[i];
            CHECKS.due("2: number", i, () -> x.fold(kind, 3, 4));
        }
        CHECKS.dueThrow("2: a seventh", Checks.STATE, () -> x.fold(0, 0, 0));
        CHECKS.dueThrow("2: a seventh of no kind", Checks.ARGUMENT, () -> x.fold(9, 0, 0));
        CHECKS.due("2: six", 6, () -> x.told(0));
        for (int kind = 0; kind <= 8; kind++) {
            int one = kind;
            CHECKS.due("2: kind " + kind, 0, () -> new KeyedFolds(0, 0, 0, 0).fold(one, 0, 0));
        }
    }

    private static void foldsEndWithTheFirstRowTaken() {
        KeyedFolds x = sums(0, 0, 0, 0);
        x.failsAt(0, 5);
        x.row(1, 1, 5);
        CHECKS.due("2: behind a row that failed", 1, () -> x.fold(6, 0, 0));
        x.row(2, 1, 6);
        CHECKS.dueThrow("2: behind a row taken", Checks.STATE, () -> x.fold(6, 0, 0));
        CHECKS.dueThrow("2: no kind behind a row taken", Checks.ARGUMENT, () -> x.fold(-1, 0, 0));
        CHECKS.due("2: two", 2, () -> x.told(0));
    }

    private static void failingValues() {
        KeyedFolds x = sums(0, 0, 0, 0);
        x.fold(0, 0, 0);
        CHECKS.dueThrow("3: fold -1", Checks.INDEX, () -> x.failsAt(-1, 0));
        CHECKS.dueThrow("3: fold 2", Checks.INDEX, () -> x.failsAt(2, 0));
        CHECKS.due("3: the first value", 1, () -> x.failsAt(0, Long.MIN_VALUE));
        CHECKS.dueThrow("3: the same value", Checks.STATE, () -> x.failsAt(0, Long.MIN_VALUE));
        CHECKS.due("3: of another fold", 1, () -> x.failsAt(1, Long.MIN_VALUE));
        CHECKS.due("3: the second value", 2, () -> x.failsAt(0, 0));
        CHECKS.due("3: taken before it fails", 0, () -> x.row(1, 0, 8));
        CHECKS.due("3: the third value, behind a row", 3, () -> x.failsAt(0, 8));
        CHECKS.due("3: the fourth value", 4, () -> x.failsAt(0, 9));
        CHECKS.dueThrow("3: a fifth value", Checks.STATE, () -> x.failsAt(0, 10));
        CHECKS.dueThrow("3: one of four", Checks.STATE, () -> x.failsAt(0, 9));
        CHECKS.dueThrow("3: no such fold, four values", Checks.INDEX, () -> x.failsAt(6, 9));
        x.rule(1, 2);
        long[] values = {Long.MIN_VALUE, 0, 8, 9, 10};
        long[] codes = {6, 6, 6, 6, 0};
        for (int i = 0; i < values.length; i++) {
            long v = values[i];
            CHECKS.due("3: row of value " + v, codes[i], () -> x.row(1, 0, v));
        }
    }

    private static void rules() {
        KeyedFolds x = new KeyedFolds(0, 0, 0, 0);
        for (int which = 0; which < 2; which++) {
            int one = which;
            CHECKS.due("4: at first", 0, () -> x.rule(one, 2));
            CHECKS.dueThrow("4: rule 3", Checks.ARGUMENT, () -> x.rule(one, 3));
            CHECKS.dueThrow("4: rule -1", Checks.ARGUMENT, () -> x.rule(one, -1));
            CHECKS.due("4: it was 2", 2, () -> x.rule(one, 1));
            CHECKS.due("4: it was 1", 1, () -> x.rule(one, 1));
        }
        CHECKS.dueThrow("4: which 2", Checks.ARGUMENT, () -> x.rule(2, 0));
        CHECKS.dueThrow("4: which -1", Checks.ARGUMENT, () -> x.rule(-1, 0));
        CHECKS.due("4: the late rule stays", 1, () -> x.rule(0, 0));
        CHECKS.due("4: the failing rule stays", 1, () -> x.rule(1, 0));
    }
}
