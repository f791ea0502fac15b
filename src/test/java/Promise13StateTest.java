/** Promise 13: state. */
public final class Promise13StateTest {
    private static final Check check = new Check("promise 13");

    public static void main(String[] args) {
        notThere();
        catalogued();
        waiting();
        deferredOtherwise();
        loose();
        notANumber();
        check.finish();
    }

    private static void notThere() {
        check.sentence("0 not there");
        Generations group = Groups.scratching(1, 5, 6);
        check.due("state(1)", 0, group.state(1));
        check.due("state(9999)", 0, group.state(9999));
        check.due("state(5), scratched", 0, group.state(5));
    }

    private static void catalogued() {
        check.sentence("1 catalogued");
        Generations group = Groups.withJobs(1, Groups.keeping(9, 9999));
        check.due("state(9999), from elsewhere", 1, group.state(9999));
        Groups.makeWell(group, 1, 1);
        check.due("state(1), ended well", 1, group.state(1));
        Groups.makeFailing(group, 1, 2);
        group.reclaim(2);
        check.due("state(2), reclaimed", 1, group.state(2));
    }

    private static void waiting() {
        check.sentence("2 deferred, waiting to be ended");
        Generations group = Groups.withJobs(1, Groups.keeping(9));
        group.make(1, 1);
        check.due("state(1), made", 2, group.state(1));
        group.end(1, 1, true);
        group.restart(1, 1);
        check.due("state(1), restarted", 2, group.state(1));
    }

    private static void deferredOtherwise() {
        check.sentence("3 deferred otherwise");
        Generations group = Groups.withJobs(1, Groups.keeping(9));
        Groups.makeFailing(group, 1, 1);
        check.due("state(1), failed", 3, group.state(1));
        group.restart(1, 1);
        group.end(1, 1, true);
        check.due("state(1), failed again", 3, group.state(1));
    }

    private static void loose() {
        check.sentence("4 loose");
        Generations group = Groups.withJobs(1, Groups.keeping(1));
        Groups.makeWell(group, 1, 1);
        Groups.upTo(group, 2, 3);
        check.due("state(1), a job's", 4, group.state(1));
        check.due("state(2), from elsewhere", 4, group.state(2));
    }

    private static void notANumber() {
        check.sentence("NONE when it is not 1 .. 9999");
        Generations group = Groups.keeping(3, 1, 9999);
        check.due("state(1)", 1, group.state(1));
        check.due("state(9999)", 1, group.state(9999));
        for (int number : new int[] {0, -1, 10000, 10001, Integer.MIN_VALUE, Integer.MAX_VALUE}) {
            check.due("state(" + number + ")", -1, group.state(number));
        }
    }
}
