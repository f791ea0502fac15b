/** Promise 6: end. */
public final class Promise06EndTest {
    private static final Check check = new Check("promise 6");

    public static void main(String[] args) {
        endsWell();
        endsFailing();
        comesIntoItsPlace();
        goesAtOnceByTheLimit();
        nothingThatWaits();
        refusals();
        check.finish();
    }

    private static void endsWell() {
        Generations group = Groups.keeping(3, 5);
        group.job();
        group.make(1, 1);
        check.due("end(1, 6, false)", 1, group.end(1, 6, false));
        check.row(group, 5, 6);
        check.due("state(6)", 1, group.state(6));
        check.due("version(6)", 0, group.version(6));
        check.due("count(4)", 0, group.count(4));
        check.due("end(1, 6, false) again", -1, group.end(1, 6, false));
        check.due("end(1, 6, true) again", -1, group.end(1, 6, true));
        check.row(group, 5, 6);
    }

    private static void endsFailing() {
        Generations group = Groups.keeping(3);
        group.job();
        group.make(1, 1);
        check.due("end(1, 1, true)", 0, group.end(1, 1, true));
        check.due("state(1)", 3, group.state(1));
        check.due("count(1)", 1, group.count(1));
        check.due("count(4)", 0, group.count(4));
        check.due("end(1, 1, false), waits no more", -1, group.end(1, 1, false));
        check.due("state(1)", 3, group.state(1));
        check.row(group);
    }

    private static void comesIntoItsPlace() {
        Generations group = Groups.keeping(9);
        group.job();
        group.make(1, 3);
        group.make(1, 1);
        group.make(1, 2);
        group.end(1, 3, false);
        group.end(1, 1, false);
        check.row(group, 1, 3);
        group.end(1, 2, false);
        check.row(group, 1, 2, 3);
    }

    private static void goesAtOnceByTheLimit() {
        Generations group = Groups.scratching(1);
        group.job();
        group.make(1, 1);
        group.make(1, 2);
        group.end(1, 2, false);
        check.due("end(1, 1, false)", 1, group.end(1, 1, false));
        check.row(group, 2);
        check.gone(group, 1);
        check.due("state(1)", 0, group.state(1));
    }

    private static void nothingThatWaits() {
        Generations group = Groups.keeping(3, 5);
        group.job();
        group.job();
        group.make(1, 1);
        check.due("end(2, 6, false), another's", -1, group.end(2, 6, false));
        check.due("end(2, 6, true), another's", -1, group.end(2, 6, true));
        check.due("state(6)", 2, group.state(6));
        for (int number : new int[] {0, -1, 5, 7, 10000, Integer.MIN_VALUE, Integer.MAX_VALUE}) {
            check.due("end(1, " + number + ", false)", -1, group.end(1, number, false));
        }
        check.due("such calls are not counted", -1, group.restart(1, 2));
        check.row(group, 5);
    }

    private static void refusals() {
        Generations group = Groups.keeping(3);
        group.job();
        group.make(1, 1);
        for (int job : new int[] {0, -1, 2, Integer.MIN_VALUE, Integer.MAX_VALUE}) {
            check.refused("end(" + job + ", 1, false)", () -> group.end(job, 1, false));
        }
        check.due("state(1)", 2, group.state(1));
    }
}
