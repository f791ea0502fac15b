/** Promise 5: make. */
public final class Promise05MakeTest {
    private static final Check check = new Check("promise 5");

    public static void main(String[] args) {
        makesPlusN();
        plusNWrapsAround();
        madeBefore();
        madeBeforeWhileAnotherMakes();
        madeBeforeButScratched();
        inTheRow();
        deferred();
        loose();
        ownLooseOne();
        anotherJobMakes();
        noSuchJob();
        wrongN();
        check.finish();
    }

    private static void makesPlusN() {
        check.sentence("The job makes plus n, deferred, of version 0: its number");
        Generations group = Groups.withJobs(1, Groups.keeping(1, 5));
        check.due("make(1, 3)", 8, group.make(1, 3));
        check.due("make(1, 1)", 6, group.make(1, 1));
        check.due("make(1, 99)", 104, group.make(1, 99));
        check.due("make(1, 98)", 103, group.make(1, 98));
        for (int number : new int[] {6, 8, 103, 104}) {
            check.due("state(" + number + ")", 2, group.state(number));
            check.due("version(" + number + ")", 0, group.version(number));
        }
        check.due("state(7)", 0, group.state(7));
        check.due("count(1)", 4, group.count(1));
        check.row(group, 5);
        check.gone(group);
    }

    private static void plusNWrapsAround() {
        check.sentence("The job makes plus n (behind 9999 comes 1)");
        Generations group = Groups.withJobs(1, Groups.keeping(3, 9950));
        check.due("make(1, 49)", 9999, group.make(1, 49));
        check.due("make(1, 50)", 1, group.make(1, 50));
        check.due("make(1, 51)", 2, group.make(1, 51));
        check.due("make(1, 99)", 50, group.make(1, 99));
        Generations last = Groups.withJobs(1, Groups.keeping(3, 9999));
        check.due("make(1, 1)", 1, last.make(1, 1));
        check.due("make(1, 99)", 99, last.make(1, 99));
    }

    private static void madeBefore() {
        check.sentence("if it has made it before, and that is catalogued or deferred, that one's number, "
                + "nothing being made");
        Generations group = Groups.withJobs(1, Groups.keeping(3));
        group.make(1, 1);
        check.changesNothing(group, "make(1, 1), waiting", 1, () -> group.make(1, 1));
        group.end(1, 1, true);
        check.changesNothing(group, "make(1, 1), failed", 1, () -> group.make(1, 1));
        check.due("end(1, 1, false), it does not wait", -1, group.end(1, 1, false));
        group.reclaim(1);
        check.changesNothing(group, "make(1, 1), catalogued", 1, () -> group.make(1, 1));
        check.due("version(1)", 1, group.version(1));
    }

    private static void madeBeforeWhileAnotherMakes() {
        check.sentence("if it has made it before .. that one's number (whoever makes)");
        Generations group = Groups.withJobs(2, Groups.keeping(3));
        Groups.makeFailing(group, 1, 1);
        Groups.makeWell(group, 1, 2);
        group.make(2, 3);
        check.changesNothing(group, "make(1, 1), deferred", 1, () -> group.make(1, 1));
        check.changesNothing(group, "make(1, 2), catalogued", 2, () -> group.make(1, 2));
    }

    private static void madeBeforeButScratched() {
        check.sentence("and that is catalogued or deferred (else it is made anew)");
        Generations group = Groups.withJobs(1, Groups.scratching(1));
        Groups.makeFailing(group, 1, 1);
        group.reclaim(1);
        group.catalogue(2);
        check.due("state(1)", 0, group.state(1));
        check.due("make(1, 1)", 1, group.make(1, 1));
        check.due("state(1)", 2, group.state(1));
        check.due("version(1)", 0, group.version(1));
        check.due("count(4)", 1, group.count(4));
    }

    private static void inTheRow() {
        check.sentence("NONE when its number is in the row");
        Generations group = Groups.withJobs(2, Groups.keeping(9));
        group.catalogue(1);
        check.changesNothing(group, "make(1, 1), from elsewhere", -1, () -> group.make(1, 1));
        Groups.makeWell(group, 2, 2);
        check.changesNothing(group, "make(1, 2), another's", -1, () -> group.make(1, 2));
        Generations scratched = Groups.withJobs(1, Groups.scratching(2));
        Groups.makeWell(scratched, 1, 1);
        scratched.empty(true);
        Groups.upTo(scratched, 2, 3);
        scratched.catalogue(1);
        check.changesNothing(scratched, "make(1, 1), another with its number", -1, () -> scratched.make(1, 1));
    }

    private static void deferred() {
        check.sentence("NONE when its number is deferred (of another job)");
        Generations group = Groups.withJobs(2, Groups.keeping(9));
        group.make(1, 1);
        check.changesNothing(group, "make(2, 1), waiting", -1, () -> group.make(2, 1));
        group.end(1, 1, true);
        check.changesNothing(group, "make(2, 1), failed", -1, () -> group.make(2, 1));
        check.due("count(4)", 0, group.count(4));
    }

    private static void loose() {
        check.sentence("NONE when its number is loose (of another job, or from elsewhere)");
        Generations elsewhere = Groups.withJobs(1, Groups.keeping(1));
        Groups.upTo(elsewhere, 1, 2);
        check.due("state(1)", 4, elsewhere.state(1));
        check.changesNothing(elsewhere, "make(1, 1), from elsewhere", -1, () -> elsewhere.make(1, 1));
        Generations another = Groups.withJobs(2, Groups.keeping(1));
        Groups.makeWell(another, 1, 1);
        another.catalogue(2);
        check.due("state(1)", 4, another.state(1));
        check.changesNothing(another, "make(2, 1), another's", -1, () -> another.make(2, 1));
        Generations gone = Groups.withJobs(2, Groups.scratching(1));
        Groups.makeWell(gone, 1, 1);
        gone.catalogue(2);
        check.due("make(2, 1), scratched", 1, gone.make(2, 1));
    }

    private static void ownLooseOne() {
        check.sentence("loose (of another job, or from elsewhere): not its own");
        Generations group = Groups.withJobs(1, Groups.keeping(1));
        Groups.makeFailing(group, 1, 1);
        group.reclaim(1);
        group.catalogue(2);
        check.due("state(1)", 4, group.state(1));
        check.due("version(1)", 1, group.version(1));
        check.due("make(1, 1)", 1, group.make(1, 1));
        check.due("state(1), made anew", 2, group.state(1));
        check.due("version(1), made anew", 0, group.version(1));
        check.due("count(2)", 0, group.count(2));
    }

    private static void anotherJobMakes() {
        check.sentence("NONE when another job makes");
        Generations group = Groups.withJobs(2, Groups.keeping(9));
        group.make(1, 1);
        group.make(1, 2);
        check.changesNothing(group, "make(2, 3)", -1, () -> group.make(2, 3));
        group.end(1, 1, false);
        check.changesNothing(group, "make(2, 3), one of 1 still waits", -1, () -> group.make(2, 3));
        group.end(1, 2, true);
        check.due("make(2, 3), none waits", 3, group.make(2, 3));
        check.due("make(2, 4), it makes itself", 4, group.make(2, 4));
        check.changesNothing(group, "make(1, 5)", -1, () -> group.make(1, 5));
    }

    private static void noSuchJob() {
        check.sentence("IllegalArgumentException when there is no such job");
        Generations group = Groups.keeping(3);
        check.refused("make(1, 1) before a job", () -> group.make(1, 1));
        check.refused("make(0, 1) before a job", () -> group.make(0, 1));
        group.job();
        String before = Picture.of(group);
        for (int job : new int[] {0, -1, 2, 40, 41, Integer.MIN_VALUE, Integer.MAX_VALUE}) {
            for (int n : new int[] {0, 1, 99, 100}) {
                check.refused("make(" + job + ", " + n + ")", () -> group.make(job, n));
            }
        }
        check.unchanged(group, "refused calls", before);
        // Even while another makes, when a job that there is would be answered NONE.
        group.make(1, 1);
        check.refused("make(2, 2)", () -> group.make(2, 2));
    }

    private static void wrongN() {
        check.sentence("IllegalArgumentException when n is not 1 .. 99");
        Generations group = Groups.withJobs(2, Groups.keeping(3, 5));
        String before = Picture.of(group);
        for (int n : new int[] {0, -1, -99, 100, 101, 9999, Integer.MIN_VALUE, Integer.MAX_VALUE}) {
            check.refused("make(1, " + n + ")", () -> group.make(1, n));
        }
        check.unchanged(group, "refused calls", before);
        check.due("make(1, 1)", 6, group.make(1, 1));
        check.due("make(1, 99)", 104, group.make(1, 99));
        check.refused("make(2, 0) while 1 makes", () -> group.make(2, 0));
        check.refused("make(2, 100) while 1 makes", () -> group.make(2, 100));
    }
}
