/** The answers that README.md tells of its example. */
public final class ReadmeTest {
    public static void main(String[] args) {
        Checks checks = new Checks();
        KeyedFolds x = new KeyedFolds(10, 30, 3, 20);
        int sum = x.fold(0, 0, 0);
        int hash = x.fold(5, 7, 31);
        x.failsAt(hash, 77);
        x.rule(0, 1);
        checks.due("taken", 0, () -> x.row(1, 5, 9));
        checks.due("the state", 9, () -> x.state(1, sum));
        x.row(1, 50, 2);
        checks.due("the watermark", 40, () -> x.watermark());
        checks.due("the row of time 5 left", 1, () -> x.told(8));
        checks.due("late, put aside", 2, () -> x.row(1, 39, 4));
        checks.due("its value", 4, () -> x.aside(0, 2));
        checks.end();
    }
}
