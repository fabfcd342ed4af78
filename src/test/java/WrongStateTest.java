import java.lang.reflect.Field;
import java.util.List;

/**
 * Promises 14 and 15 where a STATE is not the one of its rows. No run of calls leads there, so this test alone looks
 * inside the object and makes a state wrong by hand: folded and joined must tell it.
 */
public final class WrongStateTest {
    private static final Checks CHECKS = new Checks();

    public static void main(String[] args) {
        CHECKS.sentence("14: Whether a key's STATES are those of its rows folded anew", WrongStateTest::folded);
        CHECKS.sentence("14: .. of a key without rows", WrongStateTest::foldedWithoutRows);
        CHECKS.sentence("15: gives of each key's rows its STATE", WrongStateTest::joined);
        CHECKS.sentence("15: .. of each key's", WrongStateTest::joinedOfEachKey);
        CHECKS.sentence("15: .. of a key without rows", WrongStateTest::joinedWithoutRows);
        CHECKS.end();
    }

    /** Keys 0, 1 and 2, of two rows each. */
    private static KeyedFolds withKeys(int... kinds) {
        KeyedFolds x = Made.of(10, 10, 0, 0, kinds);
        for (int key = 0; key < 3; key++) {
            x.row(key, 7, key + 4);
            x.row(key, 5, key + 2);
        }
        return x;
    }

    private static void folded() {
        for (int kind = 0; kind <= 8; kind++) {
            for (int wrong = 0; wrong < 6; wrong++) {
                KeyedFolds x = withKeys(kind, kind, kind, kind, kind, kind);
                states(x, 1)[wrong]++;
                String what = "kind " + kind + ", fold " + wrong + " is wrong: ";
                CHECKS.due(what + "the key", false, () -> x.folded(1));
                CHECKS.due(what + "the key in front", true, () -> x.folded(0));
                CHECKS.due(what + "the key behind", true, () -> x.folded(2));
                states(x, 1)[wrong]--;
                CHECKS.due(what + "mended", true, () -> x.folded(1));
            }
        }
    }

    private static void foldedWithoutRows() {
        KeyedFolds x = withKeys(0, 5);
        x.row(3, 100, 1);
        CHECKS.due("rows", 0, () -> x.key(1, 0));
        CHECKS.due("as it is", true, () -> x.folded(1));
        states(x, 1)[1]++;
        CHECKS.due("made wrong", false, () -> x.folded(1));
    }

    private static void joined() {
        for (int kind = 0; kind <= 8; kind++) {
            boolean mayBeJoined = List.of(0, 1, 2, 6, 7).contains(kind);
            KeyedFolds x = withKeys(3, kind, 0);
            states(x, 1)[1]++;
            CHECKS.due("kind " + kind + " is wrong", !mayBeJoined, () -> x.joined(1));
            CHECKS.due("the fold in front", true, () -> x.joined(0));
            CHECKS.due("the fold behind", true, () -> x.joined(2));
        }
    }

    private static void joinedOfEachKey() {
        for (int wrong = 0; wrong < 3; wrong++) {
            KeyedFolds x = withKeys(0);
            states(x, wrong)[0]++;
            CHECKS.due("key " + wrong + " is wrong", false, () -> x.joined(0));
        }
        KeyedFolds two = withKeys(0);
        states(two, 0)[0]++;
        states(two, 1)[0]--;
        CHECKS.due("two are, the one as much as the other", false, () -> two.joined(0));
    }

    private static void joinedWithoutRows() {
        KeyedFolds x = withKeys(0, 1);
        x.row(3, 100, 1);
        CHECKS.due("rows", 0, () -> x.key(1, 0));
        CHECKS.due("as it is", true, () -> x.joined(1));
        states(x, 1)[1]++;
        CHECKS.due("made wrong", false, () -> x.joined(1));
    }

    private static long[] states(KeyedFolds x, int place) {
        List<?> keys = (List<?>) inside(x, "keys");
        return (long[]) inside(keys.get(place), "states");
    }

    private static Object inside(Object holder, String name) {
        try {
            Field field = holder.getClass().getDeclaredField(name);
            field.setAccessible(true);
            return field.get(holder);
        } catch (ReflectiveOperationException thrown) {
            throw new IllegalStateException("the class holds no " + name + " any more: mend this test", thrown);
        }
    }
}
