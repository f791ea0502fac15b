/** Promise 3: job. */
public final class Promise03JobTest {
    private static final Check check = new Check("promise 3");

    public static void main(String[] args) {
        itsNumber();
        noneWhenThereWere40();
        noneThoughTheyEnded();
        check.finish();
    }

    private static void itsNumber() {
        check.sentence("A job begins: its number");
        Generations group = Groups.keeping(3);
        for (int job = 1; job <= 40; job++) {
            int next = job;
            check.refused("relative(" + job + ", 0) before it", () -> group.relative(next, 0));
            check.due("job()", job, group.job());
            check.due("count(3)", job, group.count(3));
            check.due("relative(" + job + ", 0)", -1, group.relative(job, 0));
        }
        Generations making = Groups.withJobs(1, Groups.keeping(3));
        making.make(1, 1);
        check.due("job() while one makes", 2, making.job());
    }

    private static void noneWhenThereWere40() {
        check.sentence("NONE when there were 40");
        Generations group = Groups.withJobs(39, Groups.keeping(3));
        check.due("job(), the 40th", 40, group.job());
        check.changesNothing(group, "job(), the 41st", -1, group::job);
        check.due("job(), the 42nd", -1, group.job());
        check.due("count(3)", 40, group.count(3));
        check.due("make(40, 1)", 1, group.make(40, 1));
        check.refused("make(41, 1)", () -> group.make(41, 1));
    }

    private static void noneThoughTheyEnded() {
        check.sentence("NONE when there were 40 (whatever they have done)");
        Generations group = Groups.scratching(3);
        for (int job = 1; job <= 40; job++) {
            check.due("job()", job, group.job());
            Groups.makeWell(group, job, 1);
        }
        check.due("list(2)", 40, group.list(2));
        check.due("job(), the 41st", -1, group.job());
    }
}
