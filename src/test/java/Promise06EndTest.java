/** Promise 6: end. */
public final class Promise06EndTest {
    private static final Check check = new Check("promise 6");

    public static void main(String[] args) {
        fails();
        comesIntoTheRow();
        comesIntoAFullRow();
        comesInByRuleEmpty();
        anothersStep();
        waitsNoMore();
        neverMade();
        gone();
        refusedEndsAreNoSteps();
        noSuchJob();
        check.finish();
    }

    private static void fails() {
        check.sentence("when it fails, that stays deferred, and waits no more: 0");
        Generations group = Groups.withJobs(1, Groups.keeping(1));
        group.make(1, 1);
        check.due("end(1, 1, true)", 0, group.end(1, 1, true));
        check.due("state(1)", 3, group.state(1));
        check.due("version(1)", 0, group.version(1));
        check.due("count(1)", 1, group.count(1));
        check.due("count(4)", 0, group.count(4));
        check.row(group);
    }

    private static void comesIntoTheRow() {
        check.sentence("else it comes into the row: 1");
        Generations group = Groups.withJobs(1, Groups.keeping(9, 9997));
        for (int n = 1; n <= 3; n++) {
            group.make(1, n);
        }
        check.due("end(1, 1, false)", 1, group.end(1, 1, false));
        check.row(group, 9997, 1);
        check.due("end(1, 9998, false)", 1, group.end(1, 9998, false));
        check.row(group, 9997, 9998, 1);
        check.due("end(1, 9999, false)", 1, group.end(1, 9999, false));
        check.row(group, 9997, 9998, 9999, 1);
        check.due("state(9999)", 1, group.state(9999));
        check.due("version(9999)", 0, group.version(9999));
        check.due("count(1)", 0, group.count(1));
    }

    private static void comesIntoAFullRow() {
        check.sentence("else it comes into the row (the oldest go, be it itself)");
        for (int scratch = 0; scratch <= 1; scratch++) {
            Generations group = Groups.withJobs(1, new Generations(1, scratch));
            group.make(1, 1);
            group.make(1, 2);
            group.make(1, 3);
            group.end(1, 2, false);
            check.due("end(1, 3, false)", 1, group.end(1, 3, false));
            check.row(group, 3);
            check.due("end(1, 1, false), goes at once", 1, group.end(1, 1, false));
            check.row(group, 3);
            check.gone(group, 2, 1);
            check.due("state(1)", scratch == 0 ? 4 : 0, group.state(1));
            check.due("count(4)", 0, group.count(4));
        }
    }

    private static void comesInByRuleEmpty() {
        check.sentence("else it comes into the row (all but the newest go, by rule empty)");
        Generations group = Groups.withJobs(1, Groups.keeping(2, 5));
        group.make(1, 1);
        group.catalogue(7);
        group.empty(true);
        check.due("end(1, 6, false)", 1, group.end(1, 6, false));
        check.row(group, 7);
        check.gone(group, 5, 6);
        check.due("state(6)", 4, group.state(6));
    }

    private static void anothersStep() {
        check.sentence("NONE, changing nothing, when the job has none such (it is another's)");
        Generations group = Groups.withJobs(2, Groups.keeping(3, 5));
        group.make(1, 1);
        check.changesNothing(group, "end(2, 6, false)", -1, () -> group.end(2, 6, false));
        check.changesNothing(group, "end(2, 6, true)", -1, () -> group.end(2, 6, true));
        check.due("end(1, 6, false)", 1, group.end(1, 6, false));
    }

    private static void waitsNoMore() {
        check.sentence("NONE, changing nothing, when the job has none such that waits to be ended");
        Generations group = Groups.withJobs(1, Groups.keeping(3));
        Groups.makeFailing(group, 1, 1);
        check.changesNothing(group, "end(1, 1, false), failed", -1, () -> group.end(1, 1, false));
        check.changesNothing(group, "end(1, 1, true), failed", -1, () -> group.end(1, 1, true));
        group.reclaim(1);
        check.changesNothing(group, "end(1, 1, false), catalogued", -1, () -> group.end(1, 1, false));
        check.changesNothing(group, "end(1, 1, true), catalogued", -1, () -> group.end(1, 1, true));
    }

    private static void neverMade() {
        check.sentence("NONE, changing nothing, when the job has none such (nobody made it)");
        Generations group = Groups.withJobs(1, Groups.keeping(3, 5));
        group.make(1, 1);
        String before = Picture.of(group);
        for (int number : new int[] {0, -1, -6, 1, 5, 7, 9999, 10000, 10005, Integer.MIN_VALUE, Integer.MAX_VALUE}) {
            check.due("end(1, " + number + ", false)", -1, group.end(1, number, false));
            check.due("end(1, " + number + ", true)", -1, group.end(1, number, true));
        }
        check.unchanged(group, "ends of none such", before);
    }

    private static void gone() {
        check.sentence("NONE, changing nothing, when the job has none such (it is gone)");
        for (int scratch = 0; scratch <= 1; scratch++) {
            Generations group = Groups.withJobs(1, new Generations(1, scratch));
            Groups.makeWell(group, 1, 1);
            group.catalogue(2);
            check.changesNothing(group, "end(1, 1, false)", -1, () -> group.end(1, 1, false));
            check.changesNothing(group, "end(1, 1, true)", -1, () -> group.end(1, 1, true));
        }
    }

    private static void refusedEndsAreNoSteps() {
        check.sentence("changing nothing (nor counted as a step)");
        Generations group = Groups.withJobs(1, Groups.keeping(3));
        group.end(1, 1, true);
        group.end(1, 5, false);
        check.due("restart(1, 2)", -1, group.restart(1, 2));
        check.due("restart(1, 1)", 0, group.restart(1, 1));
    }

    private static void noSuchJob() {
        check.sentence("IllegalArgumentException when there is no such job");
        Generations group = Groups.keeping(3);
        check.refused("end(1, 1, false) before a job", () -> group.end(1, 1, false));
        check.refused("end(0, 1, true) before a job", () -> group.end(0, 1, true));
        group.job();
        group.make(1, 1);
        String before = Picture.of(group);
        for (int job : new int[] {0, -1, 2, 40, 41, Integer.MIN_VALUE, Integer.MAX_VALUE}) {
            for (int number : new int[] {0, 1, 2, 10000}) {
                check.refused("end(" + job + ", " + number + ", false)", () -> group.end(job, number, false));
                check.refused("end(" + job + ", " + number + ", true)", () -> group.end(job, number, true));
            }
        }
        check.unchanged(group, "refused calls", before);
    }
}
