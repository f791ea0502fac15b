/** Promise 14: count. */
public final class Promise14CountTest {
    private static final Check check = new Check("promise 14");

    public static void main(String[] args) {
        Generations group = Groups.keeping(2, 1, 2);
        counts(group, 2, 0, 0, 0, 0, 0);
        group.job();
        group.job();
        counts(group, 2, 0, 0, 2, 0, 0);
        group.make(2, 1);
        group.make(2, 2);
        counts(group, 2, 2, 0, 2, 2, 0);
        group.end(2, 3, true);
        counts(group, 2, 2, 0, 2, 2, 0);
        group.end(2, 4, false);
        counts(group, 2, 1, 1, 2, 0, 1);
        group.make(1, 3);
        counts(group, 2, 2, 1, 2, 1, 1);
        group.end(1, 5, false);
        group.reclaim(3);
        counts(group, 2, 0, 3, 2, 0, 3);
        group.reclaim(1);
        counts(group, 2, 0, 3, 2, 0, 4);
        for (int what : new int[] {-1, 6, Integer.MIN_VALUE, Integer.MAX_VALUE}) {
            check.due("count(" + what + ")", -1, group.count(what));
        }
        counts(Groups.scratching(2, 1, 2, 3), 2, 0, 0, 0, 0, 1);
        check.finish();
    }

    private static void counts(Generations group, int... want) {
        for (int what = 0; what < want.length; what++) {
            check.due("count(" + what + ")", want[what], group.count(what));
        }
    }
}
