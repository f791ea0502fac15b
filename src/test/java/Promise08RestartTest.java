/** Promise 8: restart. */
public final class Promise08RestartTest {
    private static final Check check = new Check("promise 8");

    public static void main(String[] args) {
        failedOnesWaitAgain();
        fromTheStepOn();
        endedTwiceCountsOnce();
        stepsAreOfOneJob();
        onlyWhatIsStillDeferred();
        onlyItsOwn();
        notWhileAnotherMakes();
        wrongSteps();
        refusals();
        check.finish();
    }

    private static void failedOnesWaitAgain() {
        Generations group = Groups.keeping(3);
        group.job();
        group.job();
        group.make(1, 1);
        group.make(1, 2);
        group.end(1, 1, true);
        group.end(1, 2, false);
        check.due("restart(1, 1)", 1, group.restart(1, 1));
        check.due("state(1)", 2, group.state(1));
        check.due("state(2)", 1, group.state(2));
        check.due("count(4), it makes again", 1, group.count(4));
        check.due("make(2, 3) meanwhile", -1, group.make(2, 3));
        check.due("reclaim(1) meanwhile", 0, group.reclaim(1));
        check.due("restart(1, 1) at once again", 0, group.restart(1, 1));
        check.due("end(1, 1, false)", 1, group.end(1, 1, false));
        check.row(group, 1, 2);
    }

    private static Generations threeFailed() {
        Generations group = Groups.keeping(9);
        group.job();
        for (int n = 1; n <= 3; n++) {
            group.make(1, n);
        }
        group.end(1, 3, true);
        group.end(1, 1, true);
        group.end(1, 2, true);
        return group;
    }

    private static void fromTheStepOn() {
        Generations group = threeFailed();
        check.due("restart(1, 4), behind the last", 0, group.restart(1, 4));
        check.due("count(4)", 0, group.count(4));
        check.due("restart(1, 3)", 1, group.restart(1, 3));
        check.due("state(2)", 2, group.state(2));
        check.due("state(1)", 3, group.state(1));
        group = threeFailed();
        check.due("restart(1, 2)", 2, group.restart(1, 2));
        check.due("state(3)", 3, group.state(3));
        group = threeFailed();
        check.due("restart(1, 1)", 3, group.restart(1, 1));
    }

    private static void endedTwiceCountsOnce() {
        Generations group = Groups.keeping(9);
        group.job();
        group.make(1, 1);
        group.end(1, 1, true);
        group.restart(1, 1);
        check.due("the calls stay counted", -1, group.restart(1, 3));
        group.end(1, 1, true);
        check.due("restart(1, 3)", 0, group.restart(1, 3));
        check.due("restart(1, 1)", 1, group.restart(1, 1));
        group.end(1, 1, true);
        check.due("restart(1, 3), by the third call", 1, group.restart(1, 3));
    }

    private static void stepsAreOfOneJob() {
        Generations group = Groups.keeping(9);
        group.job();
        group.job();
        group.make(1, 1);
        group.end(1, 1, false);
        group.make(2, 2);
        group.end(2, 2, true);
        check.due("restart(2, 2)", 0, group.restart(2, 2));
        check.due("restart(2, 3)", -1, group.restart(2, 3));
        check.due("restart(2, 1)", 1, group.restart(2, 1));
    }

    private static void onlyWhatIsStillDeferred() {
        Generations group = Groups.scratching(1);
        group.job();
        group.make(1, 1);
        group.end(1, 1, true);
        group.reclaim(1);
        check.due("restart(1, 1), reclaimed", 0, group.restart(1, 1));
        check.due("state(1)", 1, group.state(1));
        group.catalogue(2);
        check.due("restart(1, 1), scratched", 0, group.restart(1, 1));
        check.due("state(1)", 0, group.state(1));
    }

    private static void onlyItsOwn() {
        Generations group = Groups.scratching(1);
        group.job();
        group.job();
        group.make(1, 1);
        group.end(1, 1, true);
        group.reclaim(1);
        group.catalogue(2);
        check.due("make(2, 1), anew", 1, group.make(2, 1));
        group.end(2, 1, true);
        check.due("restart(1, 1), another's", 0, group.restart(1, 1));
        check.due("state(1)", 3, group.state(1));
        check.due("restart(2, 1)", 1, group.restart(2, 1));
    }

    private static void notWhileAnotherMakes() {
        Generations group = Groups.keeping(9);
        group.job();
        group.job();
        group.make(1, 1);
        group.end(1, 1, true);
        group.make(2, 2);
        check.due("restart(1, 1) while 2 makes", -1, group.restart(1, 1));
        check.due("restart(1, 2) while 2 makes", -1, group.restart(1, 2));
        check.due("state(1)", 3, group.state(1));
        check.due("restart(2, 1), it makes itself", 0, group.restart(2, 1));
        group.end(2, 2, false);
        check.due("restart(1, 1)", 1, group.restart(1, 1));
    }

    private static void wrongSteps() {
        Generations group = Groups.keeping(9);
        group.job();
        check.due("restart(1, 1) without an end", 0, group.restart(1, 1));
        for (int step : new int[] {0, -1, 2, Integer.MIN_VALUE, Integer.MAX_VALUE}) {
            check.due("restart(1, " + step + ")", -1, group.restart(1, step));
        }
        group.make(1, 1);
        group.end(1, 1, true);
        check.due("restart(1, 0)", -1, group.restart(1, 0));
        check.due("restart(1, 3)", -1, group.restart(1, 3));
        check.due("state(1)", 3, group.state(1));
        check.due("restart(1, 2)", 0, group.restart(1, 2));
    }

    private static void refusals() {
        Generations group = Groups.keeping(3);
        check.refused("restart(1, 1) before a job", () -> group.restart(1, 1));
        group.job();
        for (int job : new int[] {0, -1, 2, Integer.MIN_VALUE, Integer.MAX_VALUE}) {
            check.refused("restart(" + job + ", 1)", () -> group.restart(job, 1));
        }
    }
}
