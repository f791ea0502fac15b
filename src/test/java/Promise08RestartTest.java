/** Promise 8: restart. */
public final class Promise08RestartTest {
    private static final Check check = new Check("promise 8");

    public static void main(String[] args) {
        oneForItsFirstEnd();
        byThatCallOrALaterOne();
        whatItMadeItself();
        failing();
        waitsToBeEndedAgain();
        stillDeferred();
        madeAnew();
        howManyThoseAre();
        noneWhileAnotherMakes();
        itMakesItself();
        stepTooSmall();
        stepTooLarge();
        callsThatAnswered();
        stayCounted();
        endedAgain();
        noSuchJob();
        check.finish();
    }

    /** Ends 3, 1 and 2 of the job, in this order, all failing. */
    private static Generations threeFailed() {
        Generations group = Groups.withJobs(1, Groups.keeping(9));
        Groups.makeFailing(group, 1, 3);
        Groups.makeFailing(group, 1, 1);
        Groups.makeFailing(group, 1, 2);
        return group;
    }

    private static void states(Generations group, int... want) {
        for (int i = 0; i < want.length; i++) {
            check.due("state(" + (i + 1) + ")", want[i], group.state(i + 1));
        }
    }

    private static void oneForItsFirstEnd() {
        check.sentence("from a step (1 for its first end(), 2, ..)");
        Generations group = Groups.withJobs(2, Groups.keeping(9));
        Groups.makeFailing(group, 1, 1);
        Groups.makeFailing(group, 1, 2);
        Groups.makeFailing(group, 2, 3);
        check.due("restart(2, 2): the ends of 1 are none of 2's", 0, group.restart(2, 2));
        check.due("restart(2, 1)", 1, group.restart(2, 1));
        group.end(2, 3, false);
        check.due("restart(1, 2)", 1, group.restart(1, 2));
        states(group, 3, 2, 1);
    }

    private static void byThatCallOrALaterOne() {
        check.sentence("what it made and ended by that call or a later one");
        Generations first = threeFailed();
        check.due("restart(1, 1)", 3, first.restart(1, 1));
        states(first, 2, 2, 2);
        Generations second = threeFailed();
        check.due("restart(1, 2)", 2, second.restart(1, 2));
        states(second, 2, 2, 3);
        Generations third = threeFailed();
        check.due("restart(1, 3)", 1, third.restart(1, 3));
        states(third, 3, 2, 3);
        Generations behind = threeFailed();
        check.changesNothing(behind, "restart(1, 4)", 0, () -> behind.restart(1, 4));
        states(behind, 3, 3, 3);
    }

    private static void whatItMadeItself() {
        check.sentence("what it made");
        Generations group = Groups.withJobs(2, Groups.keeping(9));
        Groups.makeFailing(group, 1, 1);
        Groups.makeFailing(group, 2, 2);
        check.due("restart(1, 1)", 1, group.restart(1, 1));
        states(group, 2, 3);
    }

    private static void failing() {
        check.sentence("failing");
        Generations group = Groups.withJobs(1, Groups.keeping(9));
        Groups.makeWell(group, 1, 1);
        Groups.makeFailing(group, 1, 2);
        Groups.makeWell(group, 1, 3);
        group.make(1, 4);
        check.due("restart(1, 1)", 1, group.restart(1, 1));
        states(group, 1, 2, 1, 2);
    }

    private static void waitsToBeEndedAgain() {
        check.sentence("waits to be ended again");
        Generations group = Groups.withJobs(2, Groups.keeping(9));
        Groups.makeFailing(group, 1, 1);
        Groups.makeFailing(group, 1, 2);
        group.restart(1, 1);
        check.due("count(4), it makes again", 1, group.count(4));
        check.due("make(2, 5)", -1, group.make(2, 5));
        check.due("reclaim(1)", 0, group.reclaim(1));
        check.due("end(1, 1, false)", 1, group.end(1, 1, false));
        check.due("version(1)", 0, group.version(1));
        check.due("end(1, 2, true)", 0, group.end(1, 2, true));
        check.row(group, 1);
        check.due("count(4)", 0, group.count(4));
    }

    private static void stillDeferred() {
        check.sentence("if it is still deferred");
        Generations catalogued = threeFailed();
        catalogued.reclaim(1);
        check.due("restart(1, 1), 1 is catalogued", 2, catalogued.restart(1, 1));
        states(catalogued, 1, 2, 2);
        for (int scratch = 0; scratch <= 1; scratch++) {
            Generations group = Groups.withJobs(1, new Generations(1, scratch));
            Groups.makeFailing(group, 1, 1);
            group.reclaim(1);
            group.catalogue(2);
            check.changesNothing(group, "restart(1, 1), 1 is gone", 0, () -> group.restart(1, 1));
            check.due("state(1)", scratch == 0 ? 4 : 0, group.state(1));
        }
    }

    private static void madeAnew() {
        check.sentence("what it made and ended .. if it is still deferred (not made anew since)");
        Generations another = Groups.withJobs(2, Groups.scratching(1));
        Groups.makeFailing(another, 1, 1);
        another.reclaim(1);
        another.catalogue(2);
        Groups.makeFailing(another, 2, 1);
        check.changesNothing(another, "restart(1, 1), 1 is another's", 0, () -> another.restart(1, 1));
        check.due("restart(2, 1)", 1, another.restart(2, 1));
        Generations itself = Groups.withJobs(1, Groups.scratching(1));
        Groups.makeFailing(itself, 1, 1);
        itself.reclaim(1);
        itself.catalogue(2);
        itself.make(1, 1);
        check.changesNothing(itself, "restart(1, 1), 1 is not ended", 0, () -> itself.restart(1, 1));
        itself.end(1, 1, true);
        check.due("restart(1, 3)", 0, itself.restart(1, 3));
        check.due("restart(1, 2)", 1, itself.restart(1, 2));
    }

    private static void howManyThoseAre() {
        check.sentence("how many those are");
        Generations group = Groups.withJobs(1, Groups.keeping(1));
        check.due("restart(1, 1), none", 0, group.restart(1, 1));
        for (int n = 1; n <= 99; n++) {
            Groups.makeFailing(group, 1, n);
        }
        check.due("restart(1, 99)", 1, group.restart(1, 99));
        check.due("restart(1, 51)", 48, group.restart(1, 51));
        check.due("restart(1, 51), they wait already", 0, group.restart(1, 51));
        check.due("restart(1, 1)", 50, group.restart(1, 1));
        check.due("restart(1, 100)", 0, group.restart(1, 100));
    }

    private static void noneWhileAnotherMakes() {
        check.sentence("NONE, changing nothing, when another one makes");
        Generations group = Groups.withJobs(2, Groups.keeping(9));
        Groups.makeFailing(group, 1, 1);
        group.make(2, 2);
        check.changesNothing(group, "restart(1, 1)", -1, () -> group.restart(1, 1));
        check.changesNothing(group, "restart(1, 2)", -1, () -> group.restart(1, 2));
        group.end(2, 2, false);
        check.due("restart(1, 1), none makes", 1, group.restart(1, 1));
        check.changesNothing(group, "restart(2, 1), 1 makes again", -1, () -> group.restart(2, 1));
    }

    private static void itMakesItself() {
        check.sentence("if no other job makes (it may make itself)");
        Generations group = Groups.withJobs(1, Groups.keeping(9));
        Groups.makeFailing(group, 1, 1);
        group.make(1, 2);
        check.due("restart(1, 1)", 1, group.restart(1, 1));
        states(group, 2, 2);
    }

    private static void stepTooSmall() {
        check.sentence("NONE, changing nothing, when step is not 1 ..");
        Generations group = threeFailed();
        String before = Picture.of(group);
        for (int step : new int[] {0, -1, -3, Integer.MIN_VALUE}) {
            check.due("restart(1, " + step + ")", -1, group.restart(1, step));
        }
        check.unchanged(group, "too small steps", before);
        Generations unused = Groups.withJobs(1, Groups.keeping(9));
        check.due("restart(1, 0) without an end", -1, unused.restart(1, 0));
        check.due("restart(1, 1) without an end", 0, unused.restart(1, 1));
    }

    private static void stepTooLarge() {
        check.sentence("NONE, changing nothing, when step is not .. one more than its calls of end()");
        Generations group = threeFailed();
        String before = Picture.of(group);
        for (int step : new int[] {5, 6, 100, Integer.MAX_VALUE}) {
            check.due("restart(1, " + step + ")", -1, group.restart(1, step));
        }
        check.due("restart(1, 4)", 0, group.restart(1, 4));
        check.unchanged(group, "too large steps", before);
        Generations unused = Groups.withJobs(1, Groups.keeping(9));
        check.due("restart(1, 2) without an end", -1, unused.restart(1, 2));
        check.due("restart(1, MAX_VALUE) without an end", -1, unused.restart(1, Integer.MAX_VALUE));
    }

    private static void callsThatAnswered() {
        check.sentence("its calls of end() that answered 0 or 1");
        Generations group = Groups.withJobs(2, Groups.keeping(9));
        group.make(1, 1);
        group.make(1, 2);
        group.end(1, 3, true);
        group.end(2, 1, true);
        check.refused("end(3, 1, true)", () -> group.end(3, 1, true));
        check.due("restart(1, 2), none answered so", -1, group.restart(1, 2));
        group.end(1, 1, false);
        check.due("restart(1, 2), one answered 1", 0, group.restart(1, 2));
        check.due("restart(1, 3), one answered 1", -1, group.restart(1, 3));
        group.end(1, 2, true);
        check.due("restart(1, 3), one answered 0", 0, group.restart(1, 3));
        check.due("restart(1, 4)", -1, group.restart(1, 4));
        check.due("restart(2, 2), none of job 2 answered", -1, group.restart(2, 2));
    }

    private static void stayCounted() {
        check.sentence("Those calls stay counted");
        Generations group = threeFailed();
        group.restart(1, 1);
        check.due("restart(1, 4)", 0, group.restart(1, 4));
        check.due("restart(1, 5)", -1, group.restart(1, 5));
        group.end(1, 1, true);
        check.due("restart(1, 5), none by the fifth call", 0, group.restart(1, 5));
        check.due("restart(1, 6)", -1, group.restart(1, 6));
        check.due("restart(1, 4), by the fourth call", 1, group.restart(1, 4));
    }

    private static void endedAgain() {
        check.sentence("ended by that call or a later one (ended more than once)");
        Generations group = Groups.withJobs(1, Groups.keeping(9));
        Groups.makeFailing(group, 1, 1);
        Groups.makeFailing(group, 1, 2);
        group.restart(1, 1);
        group.end(1, 1, true);
        group.end(1, 2, false);
        check.due("restart(1, 4), 1 ended by the third", 0, group.restart(1, 4));
        check.due("restart(1, 1), once, though ended twice", 1, group.restart(1, 1));
        states(group, 2, 1);
    }

    private static void noSuchJob() {
        check.sentence("IllegalArgumentException when there is no such job");
        Generations group = Groups.keeping(3);
        check.refused("restart(1, 1) before a job", () -> group.restart(1, 1));
        check.refused("restart(0, 1) before a job", () -> group.restart(0, 1));
        group.job();
        Groups.makeFailing(group, 1, 1);
        String before = Picture.of(group);
        for (int job : new int[] {0, -1, 2, 40, 41, Integer.MIN_VALUE, Integer.MAX_VALUE}) {
            for (int step : new int[] {0, 1, 2, 3}) {
                check.refused("restart(" + job + ", " + step + ")", () -> group.restart(job, step));
            }
        }
        check.unchanged(group, "refused calls", before);
        group.restart(1, 1);
        check.refused("restart(2, 1) while 1 makes", () -> group.restart(2, 1));
    }
}
