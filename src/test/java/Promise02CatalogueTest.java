/** Promise 2: catalogue. */
public final class Promise02CatalogueTest {
    private static final Check check = new Check("promise 2");

    public static void main(String[] args) {
        howManyThereAre();
        howManyAfterTheLimit();
        wrongNumbers();
        inTheRow();
        deferred();
        versionOfOneThatWasNotThere();
        versionOfOneThatWasScratched();
        versionOfALooseOne();
        fromElsewhere();
        check.finish();
    }

    private static void howManyThereAre() {
        check.sentence("A generation is catalogued as it stands: how many there are then");
        Generations group = Groups.keeping(3);
        check.due("catalogue(7)", 1, group.catalogue(7));
        check.due("catalogue(9)", 2, group.catalogue(9));
        check.due("catalogue(8)", 3, group.catalogue(8));
        check.due("state(9)", 1, group.state(9));
        check.row(group, 7, 8, 9);
    }

    private static void howManyAfterTheLimit() {
        check.sentence("how many there are then (when some went by the limit)");
        Generations group = Groups.keeping(3, 7, 8, 9);
        check.due("catalogue(10) into a full row", 3, group.catalogue(10));
        check.due("catalogue(6), which goes at once", 3, group.catalogue(6));
        check.due("state(6)", 4, group.state(6));
        check.row(group, 8, 9, 10);
        check.gone(group, 7, 6);
        group.empty(true);
        check.due("catalogue(11) by rule empty", 1, group.catalogue(11));
        check.due("catalogue(5) by rule empty", 2, group.catalogue(5));
        Generations one = Groups.scratching(1);
        check.due("catalogue(1), limit 1", 1, one.catalogue(1));
        check.due("catalogue(2), limit 1", 1, one.catalogue(2));
        check.due("catalogue(1), limit 1, goes at once", 1, one.catalogue(1));
        check.due("state(1)", 0, one.state(1));
    }

    private static void wrongNumbers() {
        check.sentence("NONE, changing nothing, when number is not 1 .. 9999");
        Generations group = Groups.keeping(2, 5, 6);
        group.empty(true);
        String before = Picture.of(group);
        for (int number : new int[] {0, -1, -9999, 10000, 10001, 19998, Integer.MIN_VALUE, Integer.MAX_VALUE}) {
            check.due("catalogue(" + number + ")", -1, group.catalogue(number));
        }
        check.unchanged(group, "wrong numbers", before);
        check.due("catalogue(1)", 1, Groups.keeping(2).catalogue(1));
        check.due("catalogue(9999)", 1, Groups.keeping(2).catalogue(9999));
    }

    private static void inTheRow() {
        check.sentence("NONE, changing nothing, when it is in the row");
        Generations group = Groups.keeping(2, 5, 6);
        group.empty(true);
        check.changesNothing(group, "catalogue(5), the oldest", -1, () -> group.catalogue(5));
        check.changesNothing(group, "catalogue(6), the newest", -1, () -> group.catalogue(6));
        Generations reclaimed = Groups.withJobs(1, Groups.keeping(2, 5));
        Groups.makeFailing(reclaimed, 1, 1);
        reclaimed.reclaim(6);
        check.changesNothing(reclaimed, "catalogue(6), version 1", -1, () -> reclaimed.catalogue(6));
        check.due("version(6)", 1, reclaimed.version(6));
    }

    private static void deferred() {
        check.sentence("NONE, changing nothing, when it is deferred");
        Generations group = Groups.withJobs(1, Groups.keeping(9, 5));
        group.make(1, 1);
        check.changesNothing(group, "catalogue(6), waiting", -1, () -> group.catalogue(6));
        check.due("state(6)", 2, group.state(6));
        group.end(1, 6, true);
        check.changesNothing(group, "catalogue(6), failed", -1, () -> group.catalogue(6));
        check.due("state(6)", 3, group.state(6));
    }

    private static void versionOfOneThatWasNotThere() {
        check.sentence("Its version is 0, if it was not there");
        Generations group = Groups.keeping(2, 1, 9999);
        check.due("version(1)", 0, group.version(1));
        check.due("version(9999)", 0, group.version(9999));
    }

    private static void versionOfOneThatWasScratched() {
        check.sentence("Its version is 0, if it was not there (any more)");
        Generations group = Groups.withJobs(1, Groups.scratching(2));
        Groups.makeFailing(group, 1, 1);
        group.reclaim(1);
        check.due("version(1), reclaimed", 1, group.version(1));
        group.empty(true);
        Groups.upTo(group, 2, 3);
        check.due("version(1), scratched", -1, group.version(1));
        check.due("catalogue(1)", 2, group.catalogue(1));
        check.due("version(1), from elsewhere", 0, group.version(1));
    }

    private static void versionOfALooseOne() {
        check.sentence("else as it was");
        Generations group = Groups.keeping(2, 1, 2, 3);
        group.reclaim(1);
        group.reclaim(1);
        check.due("state(1)", 4, group.state(1));
        check.due("version(1), loose", 2, group.version(1));
        group.empty(true);
        group.catalogue(4);
        check.due("catalogue(1)", 2, group.catalogue(1));
        check.due("state(1)", 1, group.state(1));
        check.due("version(1), catalogued", 2, group.version(1));
        check.due("count(2)", 2, group.count(2));
        check.row(group, 1, 4);
    }

    private static void fromElsewhere() {
        check.sentence("(a data set from elsewhere)");
        Generations group = Groups.withJobs(1, Groups.keeping(9));
        group.catalogue(1);
        check.due("relative(1, 1)", -1, group.relative(1, 1));
        check.due("make(1, 1)", -1, group.make(1, 1));
        check.due("end(1, 1, false)", -1, group.end(1, 1, false));
    }
}
