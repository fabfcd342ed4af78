import java.util.ArrayList;
import java.util.LinkedHashMap;
import java.util.LinkedHashSet;
import java.util.List;
import java.util.Map;
import java.util.Set;

/** The document read plainly: states are always folded anew, and nothing is kept that rows can tell. */
final class PlainModel {
    record Row(long time, long v) { }

    record Fold(int kind, long start, long p, Set<Long> failing) { }

    private static final int MAX_ASIDES = 100;
    private static final int MAX_OUTPUTS = 300;
    private final List<Fold> folds = new ArrayList<>();
    private final Map<Long, List<Row>> keys = new LinkedHashMap<>();
    private final Map<Long, Integer> work = new LinkedHashMap<>();
    private final Set<Long> stopped = new LinkedHashSet<>();
    private final List<long[]> asides = new ArrayList<>();
    private final List<long[]> outputs = new ArrayList<>();
    private final int[] rules = new int[2];
    private final int[] counts = new int[9];
    private Long watermark = null;
    private final int lateness;
    private final int window;
    private final int ends;
    private final int period;
    private long done = 0;

    PlainModel(int lateness, int window, int ends, int period) {
        this.lateness = Math.min(100000, Math.max(0, lateness));
        this.window = Math.min(100000, Math.max(0, window));
        this.ends = Math.min(100000, Math.max(0, ends));
        this.period = Math.min(100000, Math.max(0, period));
    }

    int fold(int kind, long start, long p) {
        check(kind >= 0 && kind <= 8, new IllegalArgumentException());
        check(folds.size() < 6 && counts[4] == 0, new IllegalStateException());
        folds.add(new Fold(kind, start, p, new LinkedHashSet<>()));
        return folds.size() - 1;
    }

    int failsAt(int fold, long v) {
        check(fold >= 0 && fold < folds.size(), new IndexOutOfBoundsException());
        Set<Long> failing = folds.get(fold).failing();
        check(failing.size() < 4 && !failing.contains(v), new IllegalStateException());
        failing.add(v);
        return failing.size();
    }

    int rule(int which, int rule) {
        check(which >= 0 && which <= 1 && rule >= 0 && rule <= 2, new IllegalArgumentException());
        int before = rules[which];
        rules[which] = rule;
        return before;
    }

    void resume(long key) {
        check(stopped.remove(key), new IllegalStateException());
    }

    int row(long key, long time, long v) {
        check(time >= 0 && time <= 1L << 40, new IllegalArgumentException());
        check(!folds.isEmpty() && !stopped.contains(key), new IllegalStateException());
        int late = watermark != null && time < watermark ? 1 : 0;
        if (late == 1 && rules[0] < 2) {
            counts[5]++;
            if (rules[0] == 1) {
                asides.add(new long[] {key, time, v, -1});
            }
            return 1 + rules[0];
        }
        List<Row> rows = keys.getOrDefault(key, List.of());
        if (rows.stream().anyMatch(r -> r.v() == v && Math.abs(r.time() - time) < ends)) {
            counts[5] += late;
            counts[6]++;
            return 3;
        }
        for (int f = 0; f < folds.size(); f++) {
            if (folds.get(f).failing().contains(v)) {
                counts[5] += late;
                return fail(key, time, v, f);
            }
        }
        check(keys.containsKey(key) ? rows.size() < 60 : keys.size() < 30, new IllegalStateException());
        counts[5] += late;
        take(key, new Row(time, v));
        return 0;
    }

    long state(long key, int fold) {
        check(fold >= 0 && fold < folds.size() && keys.containsKey(key), new IndexOutOfBoundsException());
        return stateOf(keys.get(key), folds.get(fold));
    }

    int key(long key, int what) {
        check(what >= 0 && what <= 2, new IllegalArgumentException());
        return switch (what) {
            case 0 -> keys.getOrDefault(key, List.of()).size();
            case 1 -> work.getOrDefault(key, 0);
            default -> stopped.contains(key) ? 1 : 0;
        };
    }

    long rowOf(long key, int i, int what) {
        List<Row> rows = keys.getOrDefault(key, List.of());
        check(i >= 0 && i < rows.size() && what >= 0 && what <= 1, new IndexOutOfBoundsException());
        return what == 0 ? rows.get(i).time() : rows.get(i).v();
    }

    long aside(int k, int what) {
        return cell(asides, MAX_ASIDES, k, what);
    }

    long output(int k, int what) {
        return cell(outputs, MAX_OUTPUTS, k, what);
    }

    long watermark() {
        check(watermark != null, new IllegalStateException());
        return watermark;
    }

    int told(int what) {
        check(what >= 0 && what <= 8, new IllegalArgumentException());
        return switch (what) {
            case 0 -> folds.size();
            case 1 -> keys.size();
            case 2 -> asides.size();
            case 3 -> outputs.size();
            default -> counts[what];
        };
    }

    boolean folded(long key) {
        check(keys.containsKey(key), new IndexOutOfBoundsException());
        return true;
    }

    boolean joined(int fold) {
        check(fold >= 0 && fold < folds.size(), new IndexOutOfBoundsException());
        return true;
    }

    private static long cell(List<long[]> lines, int limit, int k, int what) {
        check(k >= 0 && k < limit && k < lines.size(), new IndexOutOfBoundsException());
        check(what >= 0 && what < lines.get(k).length, new IndexOutOfBoundsException());
        return lines.get(k)[what];
    }

    private static long stateOf(List<Row> rows, Fold fold) {
        long s = fold.start();
        for (int i = 0; i < rows.size(); i++) {
            long v = rows.get(i).v();
            long gap = i == 0 ? 0 : rows.get(i).time() - rows.get(i - 1).time();
            s = switch (fold.kind()) {
                case 0 -> s + v;
                case 1 -> s > v ? s : v;
                case 2 -> s < v ? s : v;
                case 3 -> v;
                case 4 -> rows.get(0).v();
                case 5 -> s * fold.p() + v;
                case 6 -> s + 1;
                case 7 -> s ^ (v * fold.p());
                default -> s > gap ? s : gap;
            };
        }
        return s;
    }

    private int fail(long key, long time, long v, int cause) {
        counts[7]++;
        if (rules[1] == 0) {
            stopped.add(key);
        } else if (rules[1] == 1) {
            asides.add(new long[] {key, time, v, cause});
        }
        return 4 + rules[1];
    }

    private void take(long key, Row row) {
        List<Row> rows = keys.computeIfAbsent(key, k -> new ArrayList<>());
        boolean last = rows.stream().allMatch(r -> r.time() <= row.time());
        rows.add(row);
        rows.sort((a, b) -> Long.compare(a.time(), b.time()));
        for (Fold fold : folds) {
            boolean joined = List.of(0, 1, 2, 6, 7).contains(fold.kind());
            work.merge(key, last || joined ? 1 : rows.size(), Integer::sum);
        }
        counts[4]++;
        watermark = Math.max(watermark == null ? Long.MIN_VALUE : watermark, row.time() - lateness);
        if (window > 0) {
            keys.forEach(this::leave);
        }
        if (period > 0) {
            tell();
        }
    }

    private void leave(long key, List<Row> rows) {
        int before = rows.size();
        rows.removeIf(r -> r.time() < watermark - window);
        int left = before - rows.size();
        counts[8] += left;
        for (Fold fold : folds) {
            boolean back = List.of(0, 6, 7).contains(fold.kind());
            work.merge(key, left == 0 ? 0 : back ? left : rows.size(), Integer::sum);
        }
    }

    private void tell() {
        List<Long> moments = new ArrayList<>();
        long m = Math.floorDiv(watermark, (long) period) * period;
        for (; m > done && moments.size() < 20; m -= period) {
            moments.add(0, m);
        }
        for (long moment : moments) {
            done = moment;
            keys.forEach((key, rows) -> {
                List<Row> below = rows.stream().filter(r -> r.time() < moment).toList();
                if (!below.isEmpty()) {
                    long[] line = new long[2 + folds.size()];
                    line[0] = moment;
                    line[1] = key;
                    for (int f = 0; f < folds.size(); f++) {
                        line[2 + f] = stateOf(below, folds.get(f));
                    }
                    outputs.add(line);
                }
            });
        }
    }

    private static void check(boolean fine, RuntimeException otherwise) {
        if (!fine) {
            throw otherwise;
        }
    }
}
