/** Promise 10: reclaim. */
public final class Promise10ReclaimTest {
    private static final Check check = new Check("promise 10");

    public static void main(String[] args) {
        deferredThatWaitsForNoEnd();
        looseOne();
        whileAJobMakes();
        comesIntoAFullRow();
        comesInByRuleEmpty();
        scratchedAtOnce();
        waiting();
        catalogued();
        notThere();
        notANumber();
        versionGrows();
        check.finish();
    }

    private static void deferredThatWaitsForNoEnd() {
        check.sentence("A deferred one that waits for no end .. comes into the row: 1");
        Generations group = Groups.withJobs(1, Groups.keeping(9, 9999));
        Groups.makeFailing(group, 1, 2);
        Groups.makeFailing(group, 1, 1);
        check.due("reclaim(2)", 1, group.reclaim(2));
        check.due("reclaim(1)", 1, group.reclaim(1));
        check.due("state(1)", 1, group.state(1));
        check.due("count(1)", 0, group.count(1));
        check.row(group, 9999, 1, 2);
    }

    private static void looseOne() {
        check.sentence("or a loose one, comes into the row: 1");
        Generations group = Groups.keeping(3, 1, 2, 3);
        group.empty(true);
        group.catalogue(4);
        check.due("reclaim(2)", 1, group.reclaim(2));
        check.row(group, 2, 4);
        check.due("state(2)", 1, group.state(2));
        check.due("count(2)", 2, group.count(2));
        check.due("reclaim(1)", 1, group.reclaim(1));
        check.row(group, 1, 2, 4);
    }

    private static void whileAJobMakes() {
        check.sentence("A deferred one that waits for no end (be another of its job waiting)");
        Generations group = Groups.withJobs(1, Groups.keeping(9));
        Groups.makeFailing(group, 1, 1);
        group.make(1, 2);
        check.due("reclaim(1)", 1, group.reclaim(1));
        check.due("reclaim(2)", 0, group.reclaim(2));
        check.due("count(4)", 1, group.count(4));
    }

    private static void comesIntoAFullRow() {
        check.sentence("comes into the row (the oldest go, be it itself): 1");
        Generations group = Groups.keeping(2, 1, 2, 3);
        check.due("reclaim(1), goes at once", 1, group.reclaim(1));
        check.due("state(1)", 4, group.state(1));
        check.row(group, 2, 3);
        check.gone(group, 1, 1);
        Generations newest = Groups.withJobs(1, Groups.keeping(2, 1, 2));
        Groups.makeFailing(newest, 1, 1);
        check.due("reclaim(3)", 1, newest.reclaim(3));
        check.row(newest, 2, 3);
        check.gone(newest, 1);
    }

    private static void comesInByRuleEmpty() {
        check.sentence("comes into the row (all but the newest go, by rule empty): 1");
        Generations group = Groups.keeping(2, 1, 2, 3);
        group.empty(true);
        check.due("reclaim(1)", 1, group.reclaim(1));
        check.row(group, 3);
        check.gone(group, 1, 1, 2);
        check.due("version(1)", 1, group.version(1));
        check.due("version(2)", 0, group.version(2));
    }

    private static void scratchedAtOnce() {
        check.sentence("comes into the row (and is scratched at once): 1");
        Generations group = Groups.withJobs(1, Groups.scratching(1));
        Groups.makeFailing(group, 1, 1);
        group.catalogue(2);
        check.due("reclaim(1)", 1, group.reclaim(1));
        check.due("state(1)", 0, group.state(1));
        check.due("version(1)", -1, group.version(1));
        check.gone(group, 1);
        check.due("reclaim(1) again", 0, group.reclaim(1));
    }

    private static void waiting() {
        check.sentence("0 when there is none such (it waits to be ended)");
        Generations group = Groups.withJobs(1, Groups.keeping(9));
        group.make(1, 1);
        check.changesNothing(group, "reclaim(1)", 0, () -> group.reclaim(1));
        group.end(1, 1, true);
        group.restart(1, 1);
        check.changesNothing(group, "reclaim(1), waiting again", 0, () -> group.reclaim(1));
        check.due("version(1)", 0, group.version(1));
    }

    private static void catalogued() {
        check.sentence("0 when there is none such (it is catalogued)");
        Generations group = Groups.keeping(2, 1, 2);
        group.empty(true);
        check.changesNothing(group, "reclaim(1)", 0, () -> group.reclaim(1));
        check.changesNothing(group, "reclaim(2)", 0, () -> group.reclaim(2));
        check.due("version(1)", 0, group.version(1));
    }

    private static void notThere() {
        check.sentence("0 when there is none such (it is not there)");
        Generations group = Groups.scratching(1, 1, 2);
        check.changesNothing(group, "reclaim(1), scratched", 0, () -> group.reclaim(1));
        check.changesNothing(group, "reclaim(3)", 0, () -> group.reclaim(3));
        check.changesNothing(group, "reclaim(9999)", 0, () -> group.reclaim(9999));
    }

    private static void notANumber() {
        check.sentence("0 when there is none such (it is no number)");
        Generations group = Groups.keeping(1, 1, 2);
        String before = Picture.of(group);
        for (int number : new int[] {0, -1, 10000, 10001, Integer.MIN_VALUE, Integer.MAX_VALUE}) {
            check.due("reclaim(" + number + ")", 0, group.reclaim(number));
        }
        check.unchanged(group, "reclaims of no number", before);
    }

    private static void versionGrows() {
        check.sentence("Its version grows by one");
        Generations group = Groups.withJobs(1, Groups.keeping(1, 5));
        for (int times = 1; times <= 3; times++) {
            group.catalogue(9);
            group.reclaim(5);
            check.due("version(5)", times, group.version(5));
        }
        check.due("version(9)", 0, group.version(9));
        Groups.makeFailing(group, 1, 1);
        group.reclaim(6);
        check.due("version(6)", 1, group.version(6));
        group.reclaim(6);
        check.due("version(6)", 2, group.version(6));
    }
}
