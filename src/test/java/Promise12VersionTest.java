/** Promise 12: version. */
public final class Promise12VersionTest {
    private static final Check check = new Check("promise 12");

    public static void main(String[] args) {
        catalogued();
        deferred();
        loose();
        notThere();
        notANumber();
        check.finish();
    }

    private static void catalogued() {
        check.sentence("The version of a catalogued one");
        Generations group = Groups.withJobs(1, Groups.keeping(9, 9999, 1));
        check.due("version(1)", 0, group.version(1));
        check.due("version(9999)", 0, group.version(9999));
        Groups.makeFailing(group, 1, 1);
        group.reclaim(2);
        check.due("version(2), reclaimed", 1, group.version(2));
    }

    private static void deferred() {
        check.sentence("The version of a deferred one");
        Generations group = Groups.withJobs(1, Groups.keeping(9));
        group.make(1, 1);
        check.due("version(1), waiting", 0, group.version(1));
        group.end(1, 1, true);
        check.due("version(1), failed", 0, group.version(1));
        group.restart(1, 1);
        check.due("version(1), waiting again", 0, group.version(1));
    }

    private static void loose() {
        check.sentence("The version of a loose one");
        Generations group = Groups.keeping(1, 1, 2);
        check.due("version(1)", 0, group.version(1));
        group.reclaim(1);
        check.due("version(1), reclaimed and gone again", 1, group.version(1));
    }

    private static void notThere() {
        check.sentence("NONE for others (that are not there)");
        Generations group = Groups.scratching(1, 1, 2);
        check.due("version(1), scratched", -1, group.version(1));
        check.due("version(3)", -1, group.version(3));
        check.due("version(9999)", -1, group.version(9999));
        check.due("version(1) of a new group", -1, Groups.keeping(1).version(1));
    }

    private static void notANumber() {
        check.sentence("NONE for others (that are no numbers)");
        Generations group = Groups.keeping(3, 1, 9999);
        for (int number : new int[] {0, -1, 10000, 10001, Integer.MIN_VALUE, Integer.MAX_VALUE}) {
            check.due("version(" + number + ")", -1, group.version(number));
        }
    }
}
