/** Promise 14: count. */
public final class Promise14CountTest {
    private static final Check check = new Check("promise 14");

    public static void main(String[] args) {
        cataloguedOnes();
        deferredOnes();
        looseOnes();
        jobs();
        theJobThatMakes();
        wentByTheLimit();
        others();
        apartFromOneAnother();
        check.finish();
    }

    private static void cataloguedOnes() {
        check.sentence("0 catalogued ones");
        check.due("count(0), empty", 0, Groups.keeping(3).count(0));
        Generations group = Groups.keeping(3, 1, 2, 3);
        check.due("count(0), full", 3, group.count(0));
        group.catalogue(4);
        check.due("count(0), full again", 3, group.count(0));
        group.empty(true);
        group.catalogue(5);
        check.due("count(0), emptied", 1, group.count(0));
        check.due("count(0) of 255", 255, Groups.upTo(new Generations(255, 0), 1, 300).count(0));
    }

    private static void deferredOnes() {
        check.sentence("1 deferred");
        Generations group = Groups.withJobs(1, Groups.keeping(3));
        group.make(1, 1);
        group.make(1, 2);
        check.due("count(1), waiting", 2, group.count(1));
        group.end(1, 1, true);
        check.due("count(1), one failed", 2, group.count(1));
        group.end(1, 2, false);
        check.due("count(1), one ended well", 1, group.count(1));
        group.reclaim(1);
        check.due("count(1), reclaimed", 0, group.count(1));
    }

    private static void looseOnes() {
        check.sentence("2 loose");
        Generations group = Groups.keeping(1, 1, 2, 3);
        check.due("count(2)", 2, group.count(2));
        group.reclaim(1);
        check.due("count(2), one goes again", 2, group.count(2));
        check.due("count(2), scratched", 0, Groups.scratching(1, 1, 2, 3).count(2));
    }

    private static void jobs() {
        check.sentence("3 jobs");
        check.due("count(3)", 0, Groups.keeping(1).count(3));
        Generations group = Groups.withJobs(1, Groups.keeping(1));
        Groups.makeWell(group, 1, 1);
        check.due("count(3), one", 1, group.count(3));
        check.due("count(3), forty", 40, Groups.withJobs(40, Groups.keeping(1)).count(3));
        check.due("count(3), no more", 40, Groups.withJobs(41, Groups.keeping(1)).count(3));
    }

    private static void theJobThatMakes() {
        check.sentence("4 the job that makes (0 none)");
        Generations group = Groups.withJobs(40, Groups.keeping(1));
        check.due("count(4), none", 0, group.count(4));
        group.make(40, 1);
        check.due("count(4)", 40, group.count(4));
        group.end(40, 1, true);
        check.due("count(4), ended", 0, group.count(4));
        group.make(2, 2);
        check.due("count(4), another", 2, group.count(4));
        group.end(2, 2, false);
        check.due("count(4), ended well", 0, group.count(4));
        group.restart(40, 1);
        check.due("count(4), restarted", 40, group.count(4));
    }

    private static void wentByTheLimit() {
        check.sentence("5 how many went by the limit");
        for (int scratch = 0; scratch <= 1; scratch++) {
            Generations group = new Generations(2, scratch);
            Groups.upTo(group, 1, 2);
            check.due("count(5), full", 0, group.count(5));
            group.catalogue(3);
            check.due("count(5), one more", 1, group.count(5));
            group.empty(true);
            group.catalogue(4);
            check.due("count(5), emptied", 3, group.count(5));
        }
        Generations again = Groups.keeping(1, 1, 2);
        again.reclaim(1);
        check.due("count(5), one went twice", 2, again.count(5));
    }

    private static void others() {
        check.sentence("NONE for others");
        Generations group = Groups.withJobs(1, Groups.keeping(1, 1, 2));
        for (int what : new int[] {-1, -2, 6, 7, 256, Integer.MIN_VALUE, Integer.MAX_VALUE}) {
            check.due("count(" + what + ")", -1, group.count(what));
        }
    }

    private static void apartFromOneAnother() {
        check.sentence("what = 0 .. 5 (each counts its own)");
        Generations group = Groups.withJobs(2, Groups.keeping(2, 1, 2));
        counts(group, 2, 0, 0, 2, 0, 0);
        group.make(2, 1);
        group.make(2, 2);
        counts(group, 2, 2, 0, 2, 2, 0);
        group.end(2, 3, true);
        group.end(2, 4, false);
        counts(group, 2, 1, 1, 2, 0, 1);
        group.make(1, 3);
        counts(group, 2, 2, 1, 2, 1, 1);
        group.end(1, 5, false);
        group.reclaim(3);
        counts(group, 2, 0, 3, 2, 0, 3);
        counts(Groups.scratching(2, 1, 2, 3), 2, 0, 0, 0, 0, 1);
    }

    private static void counts(Generations group, int... want) {
        for (int what = 0; what < want.length; what++) {
            check.due("count(" + what + ")", want[what], group.count(what));
        }
    }
}
