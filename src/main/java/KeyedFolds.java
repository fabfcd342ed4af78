import java.util.ArrayList;

/** Folds by keys over rows that come out of order, within a window that goes along with a watermark. */
public final class KeyedFolds {
    private static final int MAX_SETTING = 100000;
    private static final long MAX_TIME = 1L << 40;
    private static final int MAX_CALLS = 512;
    private static final int MAX_FOLDS = 6;
    private static final int MAX_FAILING = 4;
    private static final int MAX_KEYS = 30;
    private static final int MAX_ROWS = 60;
    private static final int MAX_ASIDES = 100;
    private static final int MAX_OUTPUTS = 300;
    private static final int MAX_TIMERS_AT_ONCE = 20;

    private static final int SUM = 0;
    private static final int MOST = 1;
    private static final int LEAST = 2;
    private static final int LAST = 3;
    private static final int FIRST = 4;
    private static final int HASH = 5;
    private static final int COUNT = 6;
    private static final int BITS = 7;
    private static final int GAP = 8;

    private static final int TAKEN = 0;
    private static final int LATE_DROPPED = 1;
    private static final int LATE_ASIDE = 2;
    private static final int DOUBLE = 3;
    private static final int FAILED_STOPPED = 4;
    private static final int FAILED_ASIDE = 5;
    private static final int FAILED_DROPPED = 6;

    private static final int LAST_RULE = 2;
    private static final long NO_TIME = -1;
    private static final int NONE = -1;
    private static final int CAUSE_LATE = -1;
    private static final int ASIDE_WIDTH = 4;
    private static final int OUTPUT_HEAD = 2;

    private final int lateness;
    private final int window;
    private final int ends;
    private final int period;
    private final ArrayList<Fold> folds = new ArrayList<>();
    private final ArrayList<KeyRows> keys = new ArrayList<>();
    private final StoppedKeys stoppedKeys = new StoppedKeys();
    private final Table asides = new Table(MAX_ASIDES, ASIDE_WIDTH);
    private final Table outputs = new Table(MAX_OUTPUTS, OUTPUT_HEAD + MAX_FOLDS);
    private int lateRule = 0;
    private int failingRule = 0;
    private long greatestTime = NO_TIME;
    private long latestTimer = 0;
    private int takenRows = 0;
    private int lateRows = 0;
    private int doubleRows = 0;
    private int failedRows = 0;
    private int leftRows = 0;

    public KeyedFolds(int lateness, int window, int ends, int period) {
        this.lateness = withinSettings(lateness);
        this.window = withinSettings(window);
        this.ends = withinSettings(ends);
        this.period = withinSettings(period);
    }

    public int fold(int kind, long start, long p) throws IllegalArgumentException, IllegalStateException {
        if (kind < SUM || kind > GAP) {
            throw new IllegalArgumentException("the kind is not 0 .. 8");
        }
        if (folds.size() >= MAX_FOLDS) {
            throw new IllegalStateException("there are six folds");
        }
        // A key is there as soon as a row was taken; its states are as many as the folds were then.
        if (!keys.isEmpty()) {
            throw new IllegalStateException("a row was taken already");
        }
        folds.add(new Fold(kind, start, p));
        return folds.size() - 1;
    }

    public int failsAt(int fold, long v) throws IndexOutOfBoundsException, IllegalStateException {
        if (!isFold(fold)) {
            throw new IndexOutOfBoundsException("no such fold");
        }
        Fold one = folds.get(fold);
        if (one.failingCount >= MAX_FAILING) {
            throw new IllegalStateException("it fails at four values");
        }
        if (one.isFailing(v)) {
            throw new IllegalStateException("it fails at that value already");
        }
        one.addFailing(v);
        return one.failingCount;
    }

    public int rule(int which, int rule) throws IllegalArgumentException {
        if (which < 0 || which > 1) {
            throw new IllegalArgumentException("which is not 0 or 1");
        }
        if (rule < 0 || rule > LAST_RULE) {
            throw new IllegalArgumentException("the rule is not 0 .. 2");
        }
        int before;
        if (which == 0) {
            before = lateRule;
            lateRule = rule;
        } else {
            before = failingRule;
            failingRule = rule;
        }
        return before;
    }

    public int row(long key, long time, long v) throws IllegalArgumentException, IllegalStateException {
        if (time < 0 || time > MAX_TIME) {
            throw new IllegalArgumentException("the time is not 0 .. 2^40");
        }
        if (folds.isEmpty()) {
            throw new IllegalStateException("there is no fold");
        }
        if (stoppedKeys.has(key)) {
            throw new IllegalStateException("the key is stopped");
        }
        // The code is found before anything changes, so that a call that throws has changed nothing.
        int code = codeOf(key, time, v);
        if (code == TAKEN && !hasRoomFor(key)) {
            throw new IllegalStateException("there is no room for a key, or row");
        }
        if (isLate(time)) {
            lateRows++;
        }
        if (code == TAKEN) {
            take(key, time, v);
            letRowsLeave();
            doTimers();
        } else {
            turnAway(code, key, time, v);
        }
        return code;
    }

    public void resume(long key) throws IllegalStateException {
        if (!stoppedKeys.has(key)) {
            throw new IllegalStateException("the key is not stopped");
        }
        stoppedKeys.remove(key);
    }

    public long state(long key, int fold) throws IndexOutOfBoundsException {
        if (!isFold(fold)) {
            throw new IndexOutOfBoundsException("no such fold");
        }
        int at = placeOfKey(key);
        if (at < 0) {
            throw new IndexOutOfBoundsException("no such key");
        }
        return keys.get(at).states[fold];
    }

    public int key(long key, int what) throws IllegalArgumentException {
        if (what < 0 || what > 2) {
            throw new IllegalArgumentException("what is not 0 .. 2");
        }
        if (what == 2) {
            return stoppedKeys.has(key) ? 1 : 0;
        }
        int at = placeOfKey(key);
        if (at < 0) {
            return 0;
        }
        return what == 0 ? keys.get(at).count : keys.get(at).work;
    }

    public long rowOf(long key, int i, int what) throws IndexOutOfBoundsException {
        int at = placeOfKey(key);
        if (at < 0) {
            throw new IndexOutOfBoundsException("no such key");
        }
        KeyRows rows = keys.get(at);
        if (i < 0 || i >= rows.count) {
            throw new IndexOutOfBoundsException("no such row");
        }
        if (what < 0 || what > 1) {
            throw new IndexOutOfBoundsException("what is not 0 or 1");
        }
        return what == 0 ? rows.times[i] : rows.values[i];
    }

    public long aside(int k, int what) throws IndexOutOfBoundsException {
        if (!asides.keeps(k)) {
            throw new IndexOutOfBoundsException("no such aside");
        }
        if (what < 0 || what >= ASIDE_WIDTH) {
            throw new IndexOutOfBoundsException("what is not 0 .. 3");
        }
        return asides.cell(k, what);
    }

    public long output(int k, int what) throws IndexOutOfBoundsException {
        if (!outputs.keeps(k)) {
            throw new IndexOutOfBoundsException("no such output");
        }
        if (what < 0 || what >= OUTPUT_HEAD + folds.size()) {
            throw new IndexOutOfBoundsException("what is neither 0, 1 nor that of a fold");
        }
        return outputs.cell(k, what);
    }

    public long watermark() throws IllegalStateException {
        if (!hasWatermark()) {
            throw new IllegalStateException("there is no watermark");
        }
        return watermarkTime();
    }

    public int told(int what) throws IllegalArgumentException {
        switch (what) {
            case 0: return folds.size();
            case 1: return keys.size();
            case 2: return asides.counted;
            case 3: return outputs.counted;
            case 4: return takenRows;
            case 5: return lateRows;
            case 6: return doubleRows;
            case 7: return failedRows;
            case 8: return leftRows;
            default: throw new IllegalArgumentException("what is not 0 .. 8");
        }
    }

    public boolean folded(long key) throws IndexOutOfBoundsException {
        int at = placeOfKey(key);
        if (at < 0) {
            throw new IndexOutOfBoundsException("no such key");
        }
        return keys.get(at).statesAreThoseFoldedAnew();
    }

    public boolean joined(int fold) throws IndexOutOfBoundsException {
        if (!isFold(fold)) {
            throw new IndexOutOfBoundsException("no such fold");
        }
        if (!folds.get(fold).mayBeJoined()) {
            return true;
        }
        for (int i = 0; i < keys.size(); i++) {
            if (!keys.get(i).stateIsThatFoldedBackwards(fold)) {
                return false;
            }
        }
        return true;
    }

    private static int withinSettings(int setting) {
        return Math.max(0, Math.min(MAX_SETTING, setting));
    }

    private boolean isFold(int fold) {
        return fold >= 0 && fold < folds.size();
    }

    private int placeOfKey(long key) {
        for (int i = 0; i < keys.size(); i++) {
            if (keys.get(i).name == key) {
                return i;
            }
        }
        return NONE;
    }

    private boolean hasWatermark() {
        return greatestTime != NO_TIME;
    }

    private long watermarkTime() {
        return greatestTime - lateness;
    }

    private boolean isLate(long time) {
        return hasWatermark() && time < watermarkTime();
    }

    private int codeOf(long key, long time, long v) {
        if (isLate(time) && lateRule == 0) {
            return LATE_DROPPED;
        }
        if (isLate(time) && lateRule == 1) {
            return LATE_ASIDE;
        }
        int at = placeOfKey(key);
        if (at >= 0 && keys.get(at).hasNear(time, v, ends)) {
            return DOUBLE;
        }
        if (causeOf(v) == NONE) {
            return TAKEN;
        }
        if (failingRule == 0) {
            return FAILED_STOPPED;
        }
        return failingRule == 1 ? FAILED_ASIDE : FAILED_DROPPED;
    }

    private int causeOf(long v) {
        for (int i = 0; i < folds.size(); i++) {
            if (folds.get(i).isFailing(v)) {
                return i;
            }
        }
        return NONE;
    }

    private boolean hasRoomFor(long key) {
        int at = placeOfKey(key);
        return at < 0 ? keys.size() < MAX_KEYS : keys.get(at).count < MAX_ROWS;
    }

    private void turnAway(int code, long key, long time, long v) {
        switch (code) {
            case LATE_ASIDE:
                putAside(key, time, v, CAUSE_LATE);
                break;
            case DOUBLE:
                doubleRows++;
                break;
            case FAILED_STOPPED:
                failedRows++;
                stoppedKeys.add(key);
                break;
            case FAILED_ASIDE:
                failedRows++;
                putAside(key, time, v, causeOf(v));
                break;
            case FAILED_DROPPED:
                failedRows++;
                break;
            default:
                break;
        }
    }

    private void putAside(long key, long time, long v, int cause) {
        int line = asides.addLine();
        if (line != NONE) {
            asides.set(line, 0, key);
            asides.set(line, 1, time);
            asides.set(line, 2, v);
            asides.set(line, 3, cause);
        }
    }

    private void take(long key, long time, long v) {
        int at = placeOfKey(key);
        if (at < 0) {
            at = keys.size();
            keys.add(new KeyRows(key, folds, startStates()));
        }
        keys.get(at).take(time, v);
        takenRows++;
        greatestTime = Math.max(greatestTime, time);
    }

    private long[] startStates() {
        long[] states = new long[folds.size()];
        for (int f = 0; f < states.length; f++) {
            states[f] = folds.get(f).start;
        }
        return states;
    }

    private void letRowsLeave() {
        if (window == 0) {
            return;
        }
        for (int i = 0; i < keys.size(); i++) {
            leftRows += keys.get(i).leaveBelow(watermarkTime() - window);
        }
    }

    private void doTimers() {
        if (period == 0 || watermarkTime() <= 0) {
            return;
        }
        long last = watermarkTime() / period * period;
        long due = Math.min((last - latestTimer) / period, MAX_TIMERS_AT_ONCE);
        for (long back = due - 1; back >= 0; back--) {
            tellStatesBelow(last - back * period);
        }
        latestTimer = last;
    }

    private void tellStatesBelow(long m) {
        for (int i = 0; i < keys.size(); i++) {
            KeyRows rows = keys.get(i);
            int below = rows.countBelow(m);
            if (below > 0) {
                putOut(m, rows, below);
            }
        }
    }

    private void putOut(long m, KeyRows rows, int below) {
        int line = outputs.addLine();
        if (line != NONE) {
            outputs.set(line, 0, m);
            outputs.set(line, 1, rows.name);
            for (int f = 0; f < folds.size(); f++) {
                outputs.set(line, OUTPUT_HEAD + f, rows.stateOfFirst(below, folds.get(f)));
            }
        }
    }

    /** One fold: what a step makes of a state, and the values at which it fails. */
    private static final class Fold {
        final int kind;
        final long start;
        final long p;
        int failingCount = 0;
        private final long[] failing = new long[MAX_FAILING];

        Fold(int kind, long start, long p) {
            this.kind = kind;
            this.start = start;
            this.p = p;
        }

        boolean mayBeJoined() {
            return kind == MOST || kind == LEAST || canBeTakenBack();
        }

        boolean canBeTakenBack() {
            return kind == SUM || kind == COUNT || kind == BITS;
        }

        boolean isFailing(long v) {
            for (int i = 0; i < failingCount; i++) {
                if (failing[i] == v) {
                    return true;
                }
            }
            return false;
        }

        void addFailing(long v) {
            if (failingCount < MAX_FAILING) {
                failing[failingCount] = v;
                failingCount++;
            }
        }

        long step(long s, long v, long gap, boolean isFirst) {
            switch (kind) {
                case SUM: return s + v;
                case MOST: return s >= v ? s : v;
                case LEAST: return s <= v ? s : v;
                case LAST: return v;
                case FIRST: return isFirst ? v : s;
                case HASH: return s * p + v;
                case COUNT: return s + 1;
                case BITS: return s ^ (v * p);
                default: return s >= gap ? s : gap;
            }
        }

        long stepTakenBack(long s, long v) {
            switch (kind) {
                case SUM: return s - v;
                case COUNT: return s - 1;
                case BITS: return s ^ (v * p);
                default: return s;
            }
        }
    }

    /** A key's rows in order, its states, and the work done for them. */
    private static final class KeyRows {
        final long name;
        final long[] times = new long[MAX_ROWS];
        final long[] values = new long[MAX_ROWS];
        final long[] states;
        int count = 0;
        int work = 0;
        private final ArrayList<Fold> folds;

        /** No fold is made once a row was taken, so there are as many states as folds for good. */
        KeyRows(long name, ArrayList<Fold> folds, long[] startStates) {
            this.name = name;
            this.folds = folds;
            this.states = startStates;
        }

        boolean hasNear(long time, long v, int ticks) {
            for (int i = 0; i < count; i++) {
                if (values[i] == v && Math.abs(times[i] - time) < ticks) {
                    return true;
                }
            }
            return false;
        }

        int countBelow(long time) {
            int below = 0;
            while (below < count && times[below] < time) {
                below++;
            }
            return below;
        }

        void take(long time, long v) {
            if (count >= MAX_ROWS) {
                return;
            }
            // Rows of one time stand as they came: the new one goes behind those of its time.
            int place = countBelow(time + 1);
            insert(place, time, v);
            boolean isBehindAll = place == count - 1;
            for (int f = 0; f < folds.size(); f++) {
                Fold fold = folds.get(f);
                if (isBehindAll || fold.mayBeJoined()) {
                    states[f] = stepAt(place, fold, states[f]);
                    work++;
                } else {
                    states[f] = stateOfFirst(count, fold);
                    work += count;
                }
            }
        }

        int leaveBelow(long time) {
            int leaving = countBelow(time);
            if (leaving > 0) {
                takeBackFirst(leaving);
                removeFirst(leaving);
                foldTheOthersAnew();
            }
            return leaving;
        }

        long stateOfFirst(int rows, Fold fold) {
            long s = fold.start;
            for (int i = 0; i < rows && i < count; i++) {
                s = stepAt(i, fold, s);
            }
            return s;
        }

        boolean statesAreThoseFoldedAnew() {
            for (int f = 0; f < folds.size(); f++) {
                if (states[f] != stateOfFirst(count, folds.get(f))) {
                    return false;
                }
            }
            return true;
        }

        boolean stateIsThatFoldedBackwards(int f) {
            Fold fold = folds.get(f);
            long s = fold.start;
            for (int i = count - 1; i >= 0; i--) {
                s = stepAt(i, fold, s);
            }
            return s == states[f];
        }

        private long stepAt(int i, Fold fold, long s) {
            long gap = i == 0 ? 0 : times[i] - times[i - 1];
            return fold.step(s, values[i], gap, i == 0);
        }

        private void insert(int place, long time, long v) {
            for (int i = count; i > place; i--) {
                times[i] = times[i - 1];
                values[i] = values[i - 1];
            }
            times[place] = time;
            values[place] = v;
            count++;
        }

        private void takeBackFirst(int leaving) {
            for (int f = 0; f < folds.size(); f++) {
                Fold fold = folds.get(f);
                if (fold.canBeTakenBack()) {
                    for (int i = 0; i < leaving; i++) {
                        states[f] = fold.stepTakenBack(states[f], values[i]);
                    }
                    work += leaving;
                }
            }
        }

        private void foldTheOthersAnew() {
            for (int f = 0; f < folds.size(); f++) {
                Fold fold = folds.get(f);
                if (!fold.canBeTakenBack()) {
                    states[f] = stateOfFirst(count, fold);
                    work += count;
                }
            }
        }

        private void removeFirst(int leaving) {
            for (int i = leaving; i < count; i++) {
                times[i - leaving] = times[i];
                values[i - leaving] = values[i];
            }
            count -= leaving;
        }
    }

    /** The keys that are stopped: they need not be among those that had a row taken. */
    private static final class StoppedKeys {
        private final long[] names = new long[MAX_CALLS];
        private int count = 0;

        boolean has(long name) {
            return placeOf(name) != NONE;
        }

        /** A call stops one key at most, so there is room for all calls that an object is used for. */
        void add(long name) {
            if (count < MAX_CALLS) {
                names[count] = name;
                count++;
            }
        }

        void remove(long name) {
            int at = placeOf(name);
            if (at != NONE) {
                count--;
                names[at] = names[count];
            }
        }

        private int placeOf(long name) {
            for (int i = 0; i < count; i++) {
                if (names[i] == name) {
                    return i;
                }
            }
            return NONE;
        }
    }

    /** Lines of numbers, up to a limit; further ones are counted alone. */
    private static final class Table {
        int counted = 0;
        private final int limit;
        private final int width;
        private final long[] cells;

        Table(int limit, int width) {
            this.limit = limit;
            this.width = width;
            this.cells = new long[limit * width];
        }

        boolean keeps(int line) {
            return line >= 0 && line < counted && line < limit;
        }

        /** The number of the new line, or NONE if there was no room to keep it. */
        int addLine() {
            int line = counted;
            counted++;
            return line >= 0 && line < limit ? line : NONE;
        }

        void set(int line, int what, long x) {
            cells[line * width + what] = x;
        }

        long cell(int line, int what) {
            return cells[line * width + what];
        }
    }
}
