/** Promises 1 to 15: each sentence about a number too small or too large, a thing that is not there, or nothing yet. */
public final class PromisesTest {
    private static final Checks CHECKS = new Checks();
    private static final int LEAST = Integer.MIN_VALUE;
    private static final int MOST = Integer.MAX_VALUE;
    private static final int[] SETTINGS = {LEAST, -1, 0, 1, 99999, 100000, 100001, MOST};
    private static final int[] COUNT_AS = {0, 0, 0, 1, 99999, 100000, 100000, 100000};

    public static void main(String[] args) {
        CHECKS.sentence("1: LATENESS .. 0 .. 100000", PromisesTest::lateness);
        CHECKS.sentence("1: WINDOW .. 0 .. 100000", PromisesTest::window);
        CHECKS.sentence("1: ENDS .. 0 .. 100000", PromisesTest::ends);
        CHECKS.sentence("1: PERIOD: each 0 .. 100000", PromisesTest::period);
        CHECKS.sentence("2: A fold of a kind: its number", PromisesTest::foldNumbers);
        CHECKS.sentence("2: IllegalArgument: the kind is not 0 .. 8", PromisesTest::foldKinds);
        CHECKS.sentence("2: IllegalState: there are six", PromisesTest::sixFolds);
        CHECKS.sentence("2: or a row was TAKEN already", PromisesTest::foldsBeforeARowIsTaken);
        CHECKS.sentence("3: from now on", PromisesTest::failsFromNowOn);
        CHECKS.sentence("3: at how many it does", PromisesTest::failsAtHowMany);
        CHECKS.sentence("3: IndexOutOfBounds", PromisesTest::failsAtNoSuchFold);
        CHECKS.sentence("3: IllegalState: it does at four", PromisesTest::failsAtFour);
        CHECKS.sentence("3: or at that", PromisesTest::failsAtThat);
        CHECKS.sentence("4: what it was (at first 0)", PromisesTest::ruleBefore);
        CHECKS.sentence("4: The late (which = 0) or failing (1) RULE", PromisesTest::ruleWhich);
        CHECKS.sentence("4: RULE is 0 .. 2 .. IllegalArgument", PromisesTest::ruleNumbers);
        CHECKS.sentence("5: IllegalArgument: the time", PromisesTest::rowTime);
        CHECKS.sentence("5: IllegalState: there is no fold", PromisesTest::rowWithoutFold);
        CHECKS.sentence("5: the key is STOPPED", PromisesTest::rowOfAStoppedKey);
        CHECKS.sentence("5: it would be TAKEN, and there is no room for a key", PromisesTest::rowWithoutRoomForAKey);
        CHECKS.sentence("5: it would be TAKEN, and there is no room for a .. row", PromisesTest::rowWithoutRoom);
        CHECKS.sentence("6: A key that is STOPPED is not any more", PromisesTest::resumed);
        CHECKS.sentence("6: IllegalState: it is not", PromisesTest::resumeOfAKeyThatIsNot);
        CHECKS.sentence("7: IndexOutOfBounds: the fold", PromisesTest::stateOfNoFold);
        CHECKS.sentence("7: or the key never had a row TAKEN", PromisesTest::stateOfNoKey);
        CHECKS.sentence("8: How many rows a key has (what = 0), WORK (1), STOPPED (2)", PromisesTest::keyAnswers);
        CHECKS.sentence("8: 0, 0 of one that never had a row", PromisesTest::keyThatNeverHadARow);
        CHECKS.sentence("8: IllegalArgument", PromisesTest::keyWhat);
        CHECKS.sentence("9: Row i of a key in order", PromisesTest::rowsOfAKey);
        CHECKS.sentence("9: IndexOutOfBounds: no such key", PromisesTest::rowOfNoKey);
        CHECKS.sentence("9: IndexOutOfBounds: also what", PromisesTest::rowOfWhat);
        CHECKS.sentence("10: ASIDE k", PromisesTest::asides);
        CHECKS.sentence("10: IndexOutOfBounds: also what", PromisesTest::asideWhat);
        CHECKS.sentence("11: OUTPUT k", PromisesTest::outputs);
        CHECKS.sentence("11: IndexOutOfBounds: also what", PromisesTest::outputWhat);
        CHECKS.sentence("12: IllegalState: there is none", PromisesTest::watermark);
        CHECKS.sentence("13: where there is nothing yet", PromisesTest::toldOfNothing);
        CHECKS.sentence("13: How many", PromisesTest::toldOfEach);
        CHECKS.sentence("13: LATE, under any RULE, also those that were DOUBLE or FAILED",
            PromisesTest::toldOfLateRows);
        CHECKS.sentence("13: IllegalArgument", PromisesTest::toldWhat);
        CHECKS.sentence("14: Whether a key's STATES are those of its rows folded anew", PromisesTest::folded);
        CHECKS.sentence("14: IndexOutOfBounds: it never had a row TAKEN", PromisesTest::foldedOfNoKey);
        CHECKS.sentence("15: true, if so, or if it may not be JOINED", PromisesTest::joined);
        CHECKS.sentence("15: IndexOutOfBounds", PromisesTest::joinedOfNoFold);
        CHECKS.end();
    }

    private static void lateness() {
        for (int i = 0; i < SETTINGS.length; i++) {
            KeyedFolds x = Made.of(SETTINGS[i], 0, 0, 0, 0);
            x.row(1, 200000, 1);
            long watermark = 200000 - COUNT_AS[i];
            CHECKS.due("watermark, " + SETTINGS[i], watermark, () -> x.watermark());
            CHECKS.due("one below it, " + SETTINGS[i], 1, () -> x.row(1, watermark - 1, 1));
            CHECKS.due("at it, " + SETTINGS[i], 0, () -> x.row(1, watermark, 1));
        }
    }

    private static void window() {
        for (int i = 0; i < SETTINGS.length; i++) {
            KeyedFolds x = Made.of(0, SETTINGS[i], 0, 0, 0);
            int window = COUNT_AS[i];
            x.row(1, 7, 1);
            x.row(2, 7 + window, 1);
            CHECKS.due("at its end, " + SETTINGS[i], 1, () -> x.key(1, 0));
            x.row(2, 8 + window, 1);
            CHECKS.due("one below its end, " + SETTINGS[i], window == 0 ? 1 : 0, () -> x.key(1, 0));
        }
    }

    private static void ends() {
        for (int i = 0; i < SETTINGS.length; i++) {
            KeyedFolds x = Made.of(0, 0, SETTINGS[i], 0, 0);
            int ends = COUNT_AS[i];
            x.row(1, 0, 7);
            if (ends > 0) {
                CHECKS.due("one less, " + SETTINGS[i], 3, () -> x.row(1, ends - 1, 7));
            }
            CHECKS.due("as many, " + SETTINGS[i], 0, () -> x.row(1, ends, 7));
        }
    }

    private static void period() {
        for (int i = 0; i < SETTINGS.length; i++) {
            KeyedFolds x = Made.of(0, 0, 0, SETTINGS[i], 0);
            int period = COUNT_AS[i];
            x.row(1, 0, 7);
            if (period > 1) {
                x.row(2, period - 1, 7);
            }
            CHECKS.due("one less, " + SETTINGS[i], 0, () -> x.told(3));
            x.row(1, period, 7);
            CHECKS.due("as many, " + SETTINGS[i], period == 0 ? 0 : period == 1 ? 1 : 2, () -> x.told(3));
            if (period > 0) {
                CHECKS.due("m, " + SETTINGS[i], period, () -> x.output(0, 0));
            }
        }
    }

    private static void foldNumbers() {
        KeyedFolds x = new KeyedFolds(0, 0, 0, 0);
        CHECKS.due("none", 0, () -> x.told(0));
        for (int i = 0; i < 6; i++) {
            int kind = 8 - i;
            CHECKS.due("fold " + i, i, () -> x.fold(kind, Long.MIN_VALUE, Long.MAX_VALUE));
            CHECKS.due("folds", i + 1, () -> x.told(0));
        }
    }

    private static void foldKinds() {
        KeyedFolds x = new KeyedFolds(0, 0, 0, 0);
        for (int kind : new int[] {LEAST, -1, 9, 10, MOST}) {
            CHECKS.dueThrow("kind " + kind, Checks.ARGUMENT, () -> x.fold(kind, 0, 0));
        }
        CHECKS.due("none was made", 0, () -> x.told(0));
        for (int kind = 0; kind <= 8; kind++) {
            int one = kind;
            CHECKS.due("kind " + kind, 0, () -> new KeyedFolds(0, 0, 0, 0).fold(one, 0, 0));
        }
    }

    private static void sixFolds() {
        KeyedFolds x = Made.of(0, 0, 0, 0, 0, 1, 2, 3, 4);
        CHECKS.due("the sixth", 5, () -> x.fold(5, 0, 0));
        CHECKS.dueThrow("a seventh", Checks.STATE, () -> x.fold(6, 0, 0));
        CHECKS.due("six", 6, () -> x.told(0));
    }

    private static void foldsBeforeARowIsTaken() {
        KeyedFolds x = Made.of(0, 0, 0, 0, 0);
        x.failsAt(0, 9);
        for (int rule = 0; rule <= 2; rule++) {
            x.rule(1, rule);
            x.row(1 + rule, 0, 9);
            CHECKS.due("behind a row that failed, rule " + rule, 1 + rule, () -> x.fold(6, 0, 0));
        }
        CHECKS.dueThrow("a row that is refused", Checks.STATE, () -> x.row(1, 0, 1));
        CHECKS.due("behind a row that was refused", 4, () -> x.fold(6, 0, 0));
        x.row(2, 0, 1);
        CHECKS.dueThrow("behind a row taken", Checks.STATE, () -> x.fold(6, 0, 0));
        CHECKS.due("folds", 5, () -> x.told(0));
        KeyedFolds left = Made.of(0, 1, 0, 0, 0);
        left.row(1, 10, 1);
        left.rule(0, 2);
        left.row(2, 0, 1);
        CHECKS.dueThrow("when rows left", Checks.STATE, () -> left.fold(6, 0, 0));
    }

    private static void failsFromNowOn() {
        KeyedFolds x = Made.of(0, 0, 0, 0, 0);
        CHECKS.due("before", 0, () -> x.row(1, 0, 9));
        x.failsAt(0, 9);
        CHECKS.due("the state stays", 9, () -> x.state(1, 0));
        CHECKS.due("none has failed", 0, () -> x.told(7));
        CHECKS.due("behind it", 4, () -> x.row(1, 0, 9));
    }

    private static void failsAtHowMany() {
        KeyedFolds x = Made.of(0, 0, 0, 0, 0, 0);
        for (int i = 1; i <= 4; i++) {
            long v = i * 10L;
            CHECKS.due("value " + i, i, () -> x.failsAt(1, v));
        }
        CHECKS.due("of the other fold", 1, () -> x.failsAt(0, 10));
    }

    private static void failsAtNoSuchFold() {
        CHECKS.dueThrow("no fold yet", Checks.INDEX, () -> new KeyedFolds(0, 0, 0, 0).failsAt(0, 1));
        KeyedFolds two = Made.of(0, 0, 0, 0, 0, 0);
        for (int fold : new int[] {LEAST, -1, 2, 5, 6, MOST}) {
            CHECKS.dueThrow("fold " + fold + " of two", Checks.INDEX, () -> two.failsAt(fold, 1));
        }
        CHECKS.due("fold 0 of two", 1, () -> two.failsAt(0, 1));
        CHECKS.due("fold 1 of two", 1, () -> two.failsAt(1, 1));
        KeyedFolds six = Made.of(0, 0, 0, 0, 0, 0, 0, 0, 0, 0);
        CHECKS.due("fold 5 of six", 1, () -> six.failsAt(5, 1));
        CHECKS.dueThrow("fold 6 of six", Checks.INDEX, () -> six.failsAt(6, 1));
    }

    private static void failsAtFour() {
        KeyedFolds x = Made.of(0, 0, 0, 0, 0);
        for (int v = 0; v < 3; v++) {
            x.failsAt(0, v);
        }
        CHECKS.due("a fourth", 4, () -> x.failsAt(0, 3));
        CHECKS.dueThrow("a fifth", Checks.STATE, () -> x.failsAt(0, 4));
    }

    private static void failsAtThat() {
        KeyedFolds x = Made.of(0, 0, 0, 0, 0, 0);
        CHECKS.due("0, though nothing was told", 1, () -> x.failsAt(0, 0));
        CHECKS.dueThrow("0 again", Checks.STATE, () -> x.failsAt(0, 0));
        CHECKS.due("1", 2, () -> x.failsAt(0, 1));
        CHECKS.dueThrow("0 once more", Checks.STATE, () -> x.failsAt(0, 0));
        CHECKS.dueThrow("1 again", Checks.STATE, () -> x.failsAt(0, 1));
        CHECKS.due("0 + 2^32", 3, () -> x.failsAt(0, 1L << 32));
        CHECKS.due("0 of the other fold", 1, () -> x.failsAt(1, 0));
    }

    private static void ruleBefore() {
        KeyedFolds x = new KeyedFolds(0, 0, 0, 0);
        for (int which = 0; which < 2; which++) {
            int one = which;
            CHECKS.due("at first", 0, () -> x.rule(one, 1));
            CHECKS.due("it was 1", 1, () -> x.rule(one, 2));
            CHECKS.due("it was 2", 2, () -> x.rule(one, 2));
            CHECKS.due("it was 2 again", 2, () -> x.rule(one, 0));
            CHECKS.due("it was 0", 0, () -> x.rule(one, 0));
        }
    }

    private static void ruleWhich() {
        KeyedFolds x = Made.of(0, 0, 0, 0, 0);
        for (int which : new int[] {LEAST, -1, 2, MOST}) {
            CHECKS.dueThrow("which " + which, Checks.ARGUMENT, () -> x.rule(which, 1));
        }
        x.failsAt(0, 9);
        x.row(1, 50, 1);
        x.rule(0, 1);
        CHECKS.due("which 0 is the late one", 2, () -> x.row(1, 49, 9));
        CHECKS.due("which 0 is not the failing one", 4, () -> x.row(2, 50, 9));
        x.rule(0, 0);
        x.rule(1, 1);
        CHECKS.due("which 1 is not the late one", 1, () -> x.row(1, 49, 9));
        CHECKS.due("which 1 is the failing one", 5, () -> x.row(1, 50, 9));
    }

    private static void ruleNumbers() {
        KeyedFolds x = new KeyedFolds(0, 0, 0, 0);
        for (int which = 0; which < 2; which++) {
            int one = which;
            for (int rule : new int[] {LEAST, -1, 3, MOST}) {
                CHECKS.dueThrow("rule " + rule, Checks.ARGUMENT, () -> x.rule(one, rule));
            }
            int before = 0;
            for (int rule = 0; rule <= 2; rule++) {
                int now = rule;
                CHECKS.due("rule " + rule, before, () -> x.rule(one, now));
                before = rule;
            }
        }
    }

    private static void rowTime() {
        KeyedFolds x = Made.of(0, 0, 0, 0, 0);
        CHECKS.dueThrow("-1", Checks.ARGUMENT, () -> x.row(1, -1, 1));
        CHECKS.due("0", 0, () -> x.row(1, 0, 1));
        CHECKS.due("2^40", 0, () -> x.row(1, 1L << 40, 1));
        CHECKS.dueThrow("2^40 + 1", Checks.ARGUMENT, () -> x.row(1, (1L << 40) + 1, 1));
        CHECKS.dueThrow("-1, behind a watermark", Checks.ARGUMENT, () -> x.row(1, -1, 1));
        CHECKS.due("none of them was late", 0, () -> x.told(5));
    }

    private static void rowWithoutFold() {
        KeyedFolds x = new KeyedFolds(0, 0, 0, 0);
        CHECKS.dueThrow("no fold", Checks.STATE, () -> x.row(1, 0, 1));
        CHECKS.due("no key", 0, () -> x.told(1));
        x.fold(0, 0, 0);
        CHECKS.due("one fold", 0, () -> x.row(1, 0, 1));
    }

    private static void rowOfAStoppedKey() {
        KeyedFolds x = Made.of(0, 0, 5, 0, 0);
        x.failsAt(0, 9);
        x.row(1, 50, 1);
        CHECKS.due("before", 0, () -> x.row(1, 50, 2));
        x.row(1, 50, 9);
        CHECKS.dueThrow("it would be taken", Checks.STATE, () -> x.row(1, 50, 3));
        CHECKS.dueThrow("it would be late", Checks.STATE, () -> x.row(1, 49, 3));
        CHECKS.dueThrow("it would be double", Checks.STATE, () -> x.row(1, 50, 1));
        CHECKS.dueThrow("it would fail", Checks.STATE, () -> x.row(1, 50, 9));
        x.rule(1, 2);
        CHECKS.dueThrow("the rule of now does not matter", Checks.STATE, () -> x.row(1, 50, 9));
        CHECKS.due("none is counted", 0, () -> x.told(5) + x.told(6));
        CHECKS.due("one is counted", 1, () -> x.told(7));
        x.resume(1);
        CHECKS.due("resumed", 0, () -> x.row(1, 50, 3));
    }

    private static void rowWithoutRoomForAKey() {
        KeyedFolds x = Made.of(0, 0, 0, 0, 0);
        for (int key = 0; key < 29; key++) {
            x.row(key, 0, 1);
        }
        CHECKS.due("the thirtieth", 0, () -> x.row(29, 5, 1));
        CHECKS.dueThrow("one more", Checks.STATE, () -> x.row(30, 5, 1));
        CHECKS.due("one that is there", 0, () -> x.row(0, 5, 1));
        CHECKS.due("late, it would not be taken", 1, () -> x.row(30, 4, 1));
        x.rule(0, 2);
        CHECKS.dueThrow("late, it would be taken", Checks.STATE, () -> x.row(30, 4, 1));
        x.failsAt(0, 9);
        CHECKS.due("failing, it would not be taken", 4, () -> x.row(30, 5, 9));
        CHECKS.due("it is stopped", 1, () -> x.key(30, 2));
    }

    private static void rowWithoutRoom() {
        KeyedFolds x = Made.of(0, 0, 1, 0, 0);
        for (int i = 0; i < 59; i++) {
            x.row(1, 5, i);
        }
        CHECKS.due("the sixtieth", 0, () -> x.row(1, 5, 59));
        CHECKS.dueThrow("one more", Checks.STATE, () -> x.row(1, 5, 60));
        CHECKS.due("of another key", 0, () -> x.row(2, 5, 60));
        CHECKS.due("late, it would not be taken", 1, () -> x.row(1, 4, 60));
        x.rule(0, 2);
        CHECKS.dueThrow("late, it would be taken", Checks.STATE, () -> x.row(1, 4, 60));
        CHECKS.due("double, it would not be taken", 3, () -> x.row(1, 5, 59));
        x.failsAt(0, 99);
        CHECKS.due("failing, it would not be taken", 4, () -> x.row(1, 5, 99));
    }

    private static void resumed() {
        KeyedFolds x = Made.of(0, 0, 0, 0, 0);
        x.failsAt(0, 9);
        x.row(1, 0, 1);
        x.row(1, 0, 9);
        x.row(2, 0, 9);
        CHECKS.due("it is stopped", 1, () -> x.key(1, 2));
        CHECKS.due("resumed", 0, Checks.act(() -> x.resume(1)));
        CHECKS.due("it is not", 0, () -> x.key(1, 2));
        CHECKS.due("the other one is", 1, () -> x.key(2, 2));
        CHECKS.due("its rows are there", 1, () -> x.key(1, 0));
        CHECKS.due("a row", 0, () -> x.row(1, 0, 2));
        CHECKS.due("a key without rows, resumed", 0, Checks.act(() -> x.resume(2)));
        CHECKS.due("it is no key yet", 1, () -> x.told(1));
        CHECKS.due("its first row", 0, () -> x.row(2, 0, 2));
        CHECKS.due("stopped again", 4, () -> x.row(1, 0, 9));
        CHECKS.due("resumed again", 0, Checks.act(() -> x.resume(1)));
    }

    private static void resumeOfAKeyThatIsNot() {
        KeyedFolds x = Made.of(0, 0, 0, 0, 0);
        CHECKS.dueThrow("nothing yet", Checks.STATE, Checks.act(() -> x.resume(0)));
        x.failsAt(0, 9);
        x.row(1, 0, 1);
        CHECKS.dueThrow("its row was taken", Checks.STATE, Checks.act(() -> x.resume(1)));
        x.rule(1, 1);
        x.row(1, 0, 9);
        CHECKS.dueThrow("its row was put aside", Checks.STATE, Checks.act(() -> x.resume(1)));
        x.rule(1, 2);
        x.row(1, 0, 9);
        CHECKS.dueThrow("its row was dropped", Checks.STATE, Checks.act(() -> x.resume(1)));
        x.rule(1, 0);
        x.row(1, 0, 9);
        CHECKS.dueThrow("another key", Checks.STATE, Checks.act(() -> x.resume(2)));
        CHECKS.due("stopped", 0, Checks.act(() -> x.resume(1)));
        CHECKS.dueThrow("not any more", Checks.STATE, Checks.act(() -> x.resume(1)));
    }

    private static void stateOfNoFold() {
        CHECKS.dueThrow("no fold yet", Checks.INDEX, () -> new KeyedFolds(0, 0, 0, 0).state(1, 0));
        KeyedFolds x = Made.of(0, 0, 0, 0, 0, 6);
        x.row(1, 0, 5);
        for (int fold : new int[] {LEAST, -1, 2, 6, MOST}) {
            CHECKS.dueThrow("fold " + fold + " of two", Checks.INDEX, () -> x.state(1, fold));
        }
        CHECKS.due("fold 0 of two", 5, () -> x.state(1, 0));
        CHECKS.due("fold 1 of two", 1, () -> x.state(1, 1));
    }

    /** Keys 1 to 5 had rows that were not TAKEN: stopped, aside, dropped, late and dropped, late and aside. */
    private static KeyedFolds withKeysThatNeverHadARowTaken() {
        KeyedFolds x = Made.of(0, 5, 0, 0, 0);
        x.failsAt(0, 9);
        for (int rule = 0; rule <= 2; rule++) {
            x.rule(1, rule);
            x.row(1 + rule, 0, 9);
        }
        x.row(7, 50, 4);
        x.row(4, 49, 1);
        x.rule(0, 1);
        x.row(5, 49, 1);
        return x;
    }

    private static void stateOfNoKey() {
        KeyedFolds x = withKeysThatNeverHadARowTaken();
        for (int key = 0; key <= 6; key++) {
            int one = key;
            CHECKS.dueThrow("key " + key, Checks.INDEX, () -> x.state(one, 0));
        }
        CHECKS.due("a key that had one", 4, () -> x.state(7, 0));
        x.row(8, 56, 1);
        CHECKS.due("its rows left", 0, () -> x.key(7, 0));
        CHECKS.due("it still ever had one", 0, () -> x.state(7, 0));
    }

    private static void keyAnswers() {
        KeyedFolds x = Made.of(10, 0, 0, 0, 0, 5);
        x.failsAt(0, 9);
        x.row(3, 5, 1);
        x.row(3, 4, 1);
        long[] wants = {2, 2 + 1 + 2, 0};
        for (int what = 0; what <= 2; what++) {
            int one = what;
            CHECKS.due("what " + what, wants[what], () -> x.key(3, one));
        }
        x.row(3, 4, 9);
        CHECKS.due("it is stopped", 1, () -> x.key(3, 2));
        CHECKS.due("its rows stay", 2, () -> x.key(3, 0));
        CHECKS.due("its work stays", 5, () -> x.key(3, 1));
    }

    private static void keyThatNeverHadARow() {
        KeyedFolds nothing = new KeyedFolds(0, 0, 0, 0);
        for (int what = 0; what <= 2; what++) {
            int one = what;
            CHECKS.due("nothing yet, what " + what, 0, () -> nothing.key(0, one));
        }
        KeyedFolds x = withKeysThatNeverHadARowTaken();
        for (int key = 0; key <= 6; key++) {
            int one = key;
            CHECKS.due("rows of key " + key, 0, () -> x.key(one, 0));
            CHECKS.due("work of key " + key, 0, () -> x.key(one, 1));
            CHECKS.due("is key " + key + " stopped", key == 1 ? 1 : 0, () -> x.key(one, 2));
        }
        CHECKS.due("rows of a key that had one", 1, () -> x.key(7, 0));
        x.row(8, 56, 1);
        CHECKS.due("rows, when it left", 0, () -> x.key(7, 0));
        CHECKS.due("work, when it left", 2, () -> x.key(7, 1));
    }

    private static void keyWhat() {
        KeyedFolds x = Made.of(0, 0, 0, 0, 0);
        x.row(1, 0, 1);
        for (int what : new int[] {LEAST, -1, 3, MOST}) {
            CHECKS.dueThrow("what " + what, Checks.ARGUMENT, () -> x.key(1, what));
            CHECKS.dueThrow("what " + what + " of no key", Checks.ARGUMENT, () -> x.key(2, what));
        }
    }

    private static void rowsOfAKey() {
        KeyedFolds x = Made.of(10, 10, 0, 0, 0);
        for (int i = 0; i < 60; i++) {
            x.row(1, 59 - i < 30 ? 5 : 6, i);
        }
        for (int i : new int[] {LEAST, -1, 60, 61, MOST}) {
            CHECKS.dueThrow("row " + i + " of sixty", Checks.INDEX, () -> x.rowOf(1, i, 0));
        }
        int[] places = {0, 29, 30, 59};
        long[] times = {5, 5, 6, 6};
        long[] values = {30, 59, 0, 29};
        for (int n = 0; n < places.length; n++) {
            int i = places[n];
            CHECKS.due("time of row " + i, times[n], () -> x.rowOf(1, i, 0));
            CHECKS.due("value of row " + i, values[n], () -> x.rowOf(1, i, 1));
        }
        x.row(2, 26, 0);
        CHECKS.due("the last of thirty", 29, () -> x.rowOf(1, 29, 1));
        CHECKS.dueThrow("row 30 of thirty", Checks.INDEX, () -> x.rowOf(1, 30, 0));
        x.row(2, 27, 0);
        CHECKS.dueThrow("row 0 of none", Checks.INDEX, () -> x.rowOf(1, 0, 0));
    }

    private static void rowOfNoKey() {
        CHECKS.dueThrow("nothing yet", Checks.INDEX, () -> new KeyedFolds(0, 0, 0, 0).rowOf(0, 0, 0));
        KeyedFolds x = withKeysThatNeverHadARowTaken();
        for (int key = 0; key <= 6; key++) {
            int one = key;
            CHECKS.dueThrow("key " + key, Checks.INDEX, () -> x.rowOf(one, 0, 0));
        }
        CHECKS.due("a key that has one", 50, () -> x.rowOf(7, 0, 0));
    }

    private static void rowOfWhat() {
        KeyedFolds x = Made.of(0, 0, 0, 0, 0);
        x.row(1, 4, 7);
        for (int what : new int[] {LEAST, -1, 2, MOST}) {
            CHECKS.dueThrow("what " + what, Checks.INDEX, () -> x.rowOf(1, 0, what));
        }
        CHECKS.due("what 0", 4, () -> x.rowOf(1, 0, 0));
        CHECKS.due("what 1", 7, () -> x.rowOf(1, 0, 1));
    }

    private static void asides() {
        KeyedFolds x = Made.of(0, 0, 0, 0, 0);
        x.rule(0, 1);
        CHECKS.dueThrow("nothing yet", Checks.INDEX, () -> x.aside(0, 0));
        x.row(1, 50, 1);
        CHECKS.dueThrow("none yet", Checks.INDEX, () -> x.aside(0, 0));
        x.row(2, 3, 4);
        x.row(5, 6, 7);
        for (int k : new int[] {LEAST, -1, 2, 99, 100, MOST}) {
            CHECKS.dueThrow("aside " + k + " of two", Checks.INDEX, () -> x.aside(k, 0));
        }
        CHECKS.due("aside 0 of two", 2, () -> x.aside(0, 0));
        CHECKS.due("aside 1 of two", 5, () -> x.aside(1, 0));
    }

    private static void asideWhat() {
        KeyedFolds x = Made.of(0, 0, 0, 0, 0);
        x.rule(0, 1);
        x.row(1, 50, 1);
        x.row(2, 3, 4);
        x.row(5, 6, 7);
        for (int what : new int[] {LEAST, -1, 4, MOST}) {
            CHECKS.dueThrow("what " + what + " of the first", Checks.INDEX, () -> x.aside(0, what));
            CHECKS.dueThrow("what " + what + " of the last", Checks.INDEX, () -> x.aside(1, what));
        }
        long[] wants = {5, 6, 7, -1};
        for (int what = 0; what <= 3; what++) {
            int one = what;
            CHECKS.due("what " + what, wants[what], () -> x.aside(1, one));
        }
    }

    private static void outputs() {
        KeyedFolds x = Made.of(0, 0, 0, 10, 0);
        CHECKS.dueThrow("nothing yet", Checks.INDEX, () -> x.output(0, 0));
        x.row(4, 5, 7);
        CHECKS.dueThrow("none yet", Checks.INDEX, () -> x.output(0, 0));
        x.row(4, 20, 1);
        for (int k : new int[] {LEAST, -1, 2, 299, 300, MOST}) {
            CHECKS.dueThrow("output " + k + " of two", Checks.INDEX, () -> x.output(k, 0));
        }
        CHECKS.due("output 0 of two", 10, () -> x.output(0, 0));
        CHECKS.due("output 1 of two", 20, () -> x.output(1, 0));
    }

    private static void outputWhat() {
        for (int folds = 1; folds <= 6; folds++) {
            KeyedFolds x = new KeyedFolds(0, 0, 0, 10);
            for (int i = 0; i < folds; i++) {
                x.fold(0, i * 100, 0);
            }
            x.row(4, 5, 7);
            x.row(4, 20, 1);
            for (int what : new int[] {LEAST, -1, folds + 2, MOST}) {
                CHECKS.dueThrow("what " + what + ", folds " + folds, Checks.INDEX, () -> x.output(0, what));
                CHECKS.dueThrow("what " + what + " of the last", Checks.INDEX, () -> x.output(1, what));
            }
            CHECKS.due("m", 10, () -> x.output(0, 0));
            CHECKS.due("key", 4, () -> x.output(0, 1));
            for (int i = 0; i < folds; i++) {
                int what = i + 2;
                CHECKS.due("what " + what + ", folds " + folds, i * 100 + 7, () -> x.output(0, what));
            }
        }
    }

    private static void watermark() {
        CHECKS.dueThrow("no fold", Checks.STATE, () -> new KeyedFolds(0, 0, 0, 0).watermark());
        KeyedFolds x = Made.of(1, 0, 0, 0, 0);
        CHECKS.dueThrow("no row", Checks.STATE, () -> x.watermark());
        x.row(1, 0, 1);
        CHECKS.due("below 0", -1, () -> x.watermark());
    }

    private static void toldOfNothing() {
        KeyedFolds x = new KeyedFolds(0, 0, 0, 0);
        for (int what = 0; what <= 8; what++) {
            int one = what;
            CHECKS.due("what " + what, 0, () -> x.told(one));
        }
    }

    /** Each count is another number, so that none can stand for another. */
    private static void toldOfEach() {
        KeyedFolds x = Made.of(0, 100, 1, 25, 0, 6);
        x.failsAt(0, 99);
        x.rule(1, 2);
        for (int key = 0; key < 3; key++) {
            for (int v = 0; v < 4; v++) {
                x.row(key, 50 + key, v);
            }
        }
        repeat(9, () -> x.row(2, 52, 0));
        repeat(8, () -> x.row(2, 52, 99));
        repeat(7, () -> x.row(2, 51, 5));
        x.rule(0, 1);
        repeat(4, () -> x.row(2, 51, 5));
        x.row(2, 152, 1);
        x.row(2, 200, 1);
        long[] wants = {2, 3, 4, 6, 14, 11, 9, 8, 12};
        for (int what = 0; what <= 8; what++) {
            int one = what;
            CHECKS.due("what " + what, wants[what], () -> x.told(one));
        }
    }

    private static void repeat(int times, Checks.Act act) {
        for (int i = 0; i < times; i++) {
            act.run();
        }
    }

    private static void toldOfLateRows() {
        KeyedFolds x = Made.of(0, 0, 1, 0, 0);
        x.failsAt(0, 9);
        x.row(1, 40, 1);
        x.row(1, 50, 1);
        int late = 0;
        for (int rule = 0; rule <= 2; rule++) {
            x.rule(0, rule);
            x.row(1, 45, 2);
            late++;
            int due = late;
            CHECKS.due("under rule " + rule, due, () -> x.told(5));
        }
        x.row(1, 40, 1);
        CHECKS.due("double behind that", 4, () -> x.told(5));
        CHECKS.due("doubles", 1, () -> x.told(6));
        for (int rule = 2; rule >= 0; rule--) {
            x.rule(1, rule);
            x.row(1, 40, 9);
        }
        CHECKS.due("failed behind that", 7, () -> x.told(5));
        CHECKS.due("failed ones", 3, () -> x.told(7));
        CHECKS.due("of them taken", 3, () -> x.told(4));
        x.row(2, 50, 2);
        CHECKS.due("at the watermark it is not late", 7, () -> x.told(5));
    }

    private static void toldWhat() {
        KeyedFolds x = new KeyedFolds(0, 0, 0, 0);
        for (int what : new int[] {LEAST, -1, 9, 10, MOST}) {
            CHECKS.dueThrow("what " + what, Checks.ARGUMENT, () -> x.told(what));
        }
        CHECKS.due("what 0", 0, () -> x.told(0));
        CHECKS.due("what 8", 0, () -> x.told(8));
    }

    private static KeyedFolds withRowsOutOfOrder(int kind) {
        KeyedFolds x = new KeyedFolds(20, 10, 0, 0);
        x.fold(kind, Long.MAX_VALUE - 2, 31);
        long[][] rows = {{1, 10, 5}, {1, 4, -7}, {2, 9, 1}, {1, 10, 6}, {1, 7, Long.MIN_VALUE}};
        for (long[] row : rows) {
            x.row(row[0], row[1], row[2]);
        }
        return x;
    }

    private static void folded() {
        for (int kind = 0; kind <= 8; kind++) {
            KeyedFolds x = withRowsOutOfOrder(kind);
            CHECKS.due("kind " + kind, true, () -> x.folded(1));
            x.row(2, 38, 3);
            CHECKS.due("kind " + kind + ", rows", 2, () -> x.key(1, 0));
            CHECKS.due("kind " + kind + ", some left", true, () -> x.folded(1));
            x.row(2, 99, 3);
            CHECKS.due("kind " + kind + ", rows", 0, () -> x.key(1, 0));
            CHECKS.due("kind " + kind + ", all left", true, () -> x.folded(1));
        }
    }

    private static void foldedOfNoKey() {
        CHECKS.dueThrow("nothing yet", Checks.INDEX, () -> new KeyedFolds(0, 0, 0, 0).folded(0));
        KeyedFolds x = withKeysThatNeverHadARowTaken();
        for (int key = 0; key <= 6; key++) {
            int one = key;
            CHECKS.dueThrow("key " + key, Checks.INDEX, () -> x.folded(one));
        }
        CHECKS.due("a key that had one", true, () -> x.folded(7));
        x.row(8, 56, 1);
        CHECKS.due("when its rows left", true, () -> x.folded(7));
    }

    private static void joined() {
        for (int kind = 0; kind <= 8; kind++) {
            int one = kind;
            CHECKS.due("kind " + kind + ", no key", true, () -> Made.one(one, 5, 5).joined(0));
            KeyedFolds x = withRowsOutOfOrder(kind);
            CHECKS.due("kind " + kind, true, () -> x.joined(0));
            x.row(2, 38, 3);
            CHECKS.due("kind " + kind + ", some left", true, () -> x.joined(0));
            x.row(2, 99, 3);
            CHECKS.due("kind " + kind + ", all left", true, () -> x.joined(0));
        }
    }

    private static void joinedOfNoFold() {
        CHECKS.dueThrow("no fold yet", Checks.INDEX, () -> new KeyedFolds(0, 0, 0, 0).joined(0));
        KeyedFolds two = Made.of(0, 0, 0, 0, 0, 5);
        for (int fold : new int[] {LEAST, -1, 2, 6, MOST}) {
            CHECKS.dueThrow("fold " + fold + " of two", Checks.INDEX, () -> two.joined(fold));
        }
        CHECKS.due("fold 0 of two", true, () -> two.joined(0));
        CHECKS.due("fold 1 of two", true, () -> two.joined(1));
        KeyedFolds six = Made.of(0, 0, 0, 0, 0, 0, 0, 0, 0, 0);
        CHECKS.due("fold 5 of six", true, () -> six.joined(5));
        CHECKS.dueThrow("fold 6 of six", Checks.INDEX, () -> six.joined(6));
    }
}
