/** Groups that the tests begin with, and steps of jobs in them. */
final class Groups {
    private Groups() {
    }

    static Generations keeping(int limit, int... numbers) {
        return filled(new Generations(limit, 0), numbers);
    }

    static Generations scratching(int limit, int... numbers) {
        return filled(new Generations(limit, 1), numbers);
    }

    /** Numbers from .. to, each catalogued. */
    static Generations upTo(Generations group, int from, int to) {
        for (int number = from; number <= to; number++) {
            group.catalogue(number);
        }
        return group;
    }

    static Generations withJobs(int many, Generations group) {
        for (int i = 0; i < many; i++) {
            group.job();
        }
        return group;
    }

    /** The job makes plus n, and its step fails. */
    static void makeFailing(Generations group, int job, int n) {
        group.end(job, group.make(job, n), true);
    }

    /** The job makes plus n, and its step ends well. */
    static void makeWell(Generations group, int job, int n) {
        group.end(job, group.make(job, n), false);
    }

    private static Generations filled(Generations group, int... numbers) {
        for (int number : numbers) {
            group.catalogue(number);
        }
        return group;
    }
}
