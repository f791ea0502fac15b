/** The document's head: for how many calls an object is used. Each run here is of 512 calls. */
public final class HeadTest {
    private static final Check check = new Check("head");

    public static void main(String[] args) {
        check.sentence("An object is used for at most 512 calls after it has been made");
        asManyGoAsCan(0, 4);
        asManyGoAsCan(1, 0);
        asManyNumbersAsCan();
        oneVersionGrowsAndGrows();
        oneStepEndsAndEnds();
        allJobsKeepFullRows();
        allDeferred();
        check.finish();
    }

    /** 511 numbers, so that 510 go, and the 512th call asks. */
    private static void asManyGoAsCan(int scratch, int stateOfGone) {
        check.due("dropped(509)", 510, Groups.upTo(new Generations(1, scratch), 1, 511).dropped(509));
        check.due("dropped(510)", -1, Groups.upTo(new Generations(1, scratch), 1, 511).dropped(510));
        check.due("dropped(0)", 1, Groups.upTo(new Generations(1, scratch), 1, 511).dropped(0));
        check.due("count(5)", 510, Groups.upTo(new Generations(1, scratch), 1, 511).count(5));
        check.due("count(2)", scratch == 0 ? 510 : 0,
                Groups.upTo(new Generations(1, scratch), 1, 511).count(2));
        check.due("state(510)", stateOfGone, Groups.upTo(new Generations(1, scratch), 1, 511).state(510));
        check.due("list(0)", 511, Groups.upTo(new Generations(1, scratch), 1, 511).list(0));
    }

    private static void asManyNumbersAsCan() {
        check.due("catalogue(512)", 255, Groups.upTo(new Generations(255, 0), 1, 511).catalogue(512));
        check.due("list(254)", 511, Groups.upTo(new Generations(255, 0), 1, 511).list(254));
        check.due("state(511)", 1, Groups.upTo(new Generations(255, 0), 1, 511).state(511));
        Generations emptied = new Generations(255, 0);
        emptied.empty(true);
        Groups.upTo(emptied, 1, 510);
        check.due("dropped(254), by rule empty", 255, emptied.dropped(254));
    }

    private static void oneVersionGrowsAndGrows() {
        Generations group = Groups.keeping(1, 1, 2);
        for (int i = 0; i < 509; i++) {
            group.reclaim(1);
        }
        check.due("version(1)", 509, group.version(1));
    }

    private static void oneStepEndsAndEnds() {
        Generations group = new Generations(1, 1);
        group.job();
        group.make(1, 1);
        for (int step = 1; step <= 255; step++) {
            check.due("end " + step, 0, group.end(1, 1, true));
            check.due("restart(1, " + step + ")", 1, group.restart(1, step));
        }
    }

    private static void allJobsKeepFullRows() {
        Generations group = Groups.withJobs(40, Groups.upTo(new Generations(255, 1), 1, 255));
        group.catalogue(256);
        check.due("relative(40, 0)", 255, group.relative(40, 0));
        check.due("relative(40, -253)", 2, group.relative(40, -253));
        check.due("relative(40, -254), scratched", -1, group.relative(40, -254));
        for (int n = 1; n <= 99; n++) {
            group.make(40, n);
        }
        for (int n = 2; n <= 99; n++) {
            check.due("relative(40, " + n + ")", 255 + n, group.relative(40, n));
        }
        for (int i = 0; i < 14; i++) {
            check.due("count(1)", 98, group.count(1));
        }
        check.due("make(40, 1), from elsewhere", -1, group.make(40, 1));
        check.due("count(4)", 40, group.count(4));
    }

    /** Five jobs make what they can: what is deferred is not held to the limit. */
    private static void allDeferred() {
        Generations group = new Generations(1, 1);
        int made = 0;
        for (int job = 1; made < 250; job++) {
            group.catalogue(job * 100);
            group.job();
            for (int n = 1; n <= 99 && made < 250; n++) {
                Groups.makeFailing(group, job, n);
                made++;
            }
        }
        check.due("count(1)", 250, group.count(1));
    }
}
