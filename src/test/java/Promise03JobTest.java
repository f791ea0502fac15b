/** Promise 3: job. */
public final class Promise03JobTest {
    private static final Check check = new Check("promise 3");

    public static void main(String[] args) {
        Generations group = Groups.keeping(3);
        for (int job = 1; job <= 40; job++) {
            check.due("job()", job, group.job());
            check.due("count(3)", job, group.count(3));
        }
        check.due("job(), the 41st", -1, group.job());
        check.due("job(), the 42nd", -1, group.job());
        check.due("count(3)", 40, group.count(3));
        check.due("make(40, 1)", 1, group.make(40, 1));
        check.refused("make(41, 1)", () -> group.make(41, 1));
        keepsTheRow();
        check.finish();
    }

    private static void keepsTheRow() {
        Generations group = Groups.keeping(9, 5);
        group.job();
        group.catalogue(6);
        group.job();
        check.due("relative(1, 0)", 5, group.relative(1, 0));
        check.due("relative(2, 0)", 6, group.relative(2, 0));
        check.due("relative(2, -1)", 5, group.relative(2, -1));
        check.due("make(2, 1)", 7, group.make(2, 1));
        group.end(2, 7, true);
        check.due("make(1, 3)", 8, group.make(1, 3));
    }
}
