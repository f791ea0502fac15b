/** Promise 10: reclaim. */
public final class Promise10ReclaimTest {
    private static final Check check = new Check("promise 10");

    public static void main(String[] args) {
        failedOne();
        looseOne();
        looseOneThatGoesAtOnce();
        scratchedAtOnce();
        noneSuch();
        check.finish();
    }

    private static void failedOne() {
        Generations group = Groups.keeping(9);
        group.job();
        group.make(1, 1);
        check.due("reclaim(1), waiting", 0, group.reclaim(1));
        check.due("version(1)", 0, group.version(1));
        group.end(1, 1, true);
        check.due("reclaim(1), failed", 1, group.reclaim(1));
        check.due("version(1)", 1, group.version(1));
        check.due("state(1)", 1, group.state(1));
        check.row(group, 1);
        check.due("reclaim(1), catalogued", 0, group.reclaim(1));
        check.due("version(1)", 1, group.version(1));
    }

    private static void looseOne() {
        Generations group = Groups.keeping(2, 1, 2);
        group.empty(true);
        group.catalogue(3);
        check.row(group, 3);
        check.due("reclaim(2)", 1, group.reclaim(2));
        check.row(group, 2, 3);
        check.due("version(2)", 1, group.version(2));
        check.due("reclaim(1)", 1, group.reclaim(1));
        check.row(group, 3);
        check.gone(group, 1, 2, 1, 2);
    }

    private static void looseOneThatGoesAtOnce() {
        Generations group = Groups.keeping(1, 1, 2);
        check.due("reclaim(1)", 1, group.reclaim(1));
        check.due("reclaim(1) again", 1, group.reclaim(1));
        check.due("version(1)", 2, group.version(1));
        check.due("state(1)", 4, group.state(1));
        check.row(group, 2);
        check.gone(group, 1, 1, 1);
    }

    private static void scratchedAtOnce() {
        Generations group = Groups.scratching(1);
        group.job();
        group.make(1, 1);
        group.end(1, 1, true);
        group.catalogue(2);
        check.due("reclaim(1)", 1, group.reclaim(1));
        check.due("state(1)", 0, group.state(1));
        check.due("version(1)", -1, group.version(1));
        check.gone(group, 1);
    }

    private static void noneSuch() {
        Generations group = Groups.scratching(1, 1, 2);
        for (int number : new int[] {0, -1, 1, 2, 3, 9999, 10000, Integer.MIN_VALUE, Integer.MAX_VALUE}) {
            check.due("reclaim(" + number + ")", 0, group.reclaim(number));
        }
        check.row(group, 2);
    }
}
