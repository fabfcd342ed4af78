import java.util.ArrayList;
import java.util.List;

/** Objects to test, and all that an object answers to calls that read. */
final class Made {
    private static final int ENDS_READ = 2;

    private Made() { }

    /** Each fold has the start 0 and the number 3. */
    static KeyedFolds of(int lateness, int window, int ends, int period, int... kinds) {
        KeyedFolds x = new KeyedFolds(lateness, window, ends, period);
        for (int kind : kinds) {
            x.fold(kind, 0, 3);
        }
        return x;
    }

    static KeyedFolds one(int kind, long start, long p) {
        KeyedFolds x = new KeyedFolds(0, 0, 0, 0);
        x.fold(kind, start, p);
        return x;
    }

    /** All that can be read, of the keys that are named; of asides and outputs the first and last ones. */
    static List<Object> reading(KeyedFolds x, long... keys) {
        List<Object> read = new ArrayList<>();
        for (int what = 0; what <= 8; what++) {
            int one = what;
            read.add(Checks.outcome(() -> x.told(one)));
        }
        read.add(Checks.outcome(() -> x.watermark()));
        for (int which = 0; which < 2; which++) {
            int rule = x.rule(which, 0);
            x.rule(which, rule);
            read.add(rule);
        }
        for (long key : keys) {
            readKey(read, x, key);
        }
        readLines(read, Math.min(100, x.told(2)), 4, (k, what) -> x.aside(k, what));
        readLines(read, Math.min(300, x.told(3)), 2 + x.told(0), (k, what) -> x.output(k, what));
        return read;
    }

    private static void readKey(List<Object> read, KeyedFolds x, long key) {
        for (int what = 0; what <= 2; what++) {
            int one = what;
            read.add(Checks.outcome(() -> x.key(key, one)));
        }
        read.add(Checks.outcome(() -> x.folded(key)));
        for (int fold = 0; fold < x.told(0); fold++) {
            int one = fold;
            read.add(Checks.outcome(() -> x.state(key, one)));
        }
        int rows = x.key(key, 0);
        for (int i = 0; i < rows; i++) {
            read.add(x.rowOf(key, i, 0));
            read.add(x.rowOf(key, i, 1));
        }
    }

    private interface Cell {
        long at(int k, int what);
    }

    private static void readLines(List<Object> read, int kept, int width, Cell cell) {
        for (int k = 0; k < kept; k++) {
            for (int what = 0; what < width && (k < ENDS_READ || k >= kept - ENDS_READ); what++) {
                read.add(cell.at(k, what));
            }
        }
    }
}
