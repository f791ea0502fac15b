/**
 * Many runs of calls, each answered by the class and by the plain model alike. Looks at everything
 * come on top of a run's 512 calls: the document leaves those free, but they change nothing here.
 */
public final class ModelTest {
    private static final int RUNS = 6000;
    private static final int THREW = -1000;
    private static final int[] BASES = {0, 9990, 4995, 9996, 40};
    private static final int WHOLE_CIRCLE = 9999;
    private static final Check check = new Check("model");

    private static long seed;

    public static void main(String[] args) {
        for (int run = 0; run < RUNS; run++) {
            seed = run * 7919L + 17;
            aRun(run);
        }
        check.finish();
    }

    /** A row of numbers that is the same each time the test runs. */
    private static int pick(int below) {
        seed = seed * 6364136223846793005L + 1442695040888963407L;
        return (int) ((seed >>> 33) % below);
    }

    private static void aRun(int run) {
        boolean great = pick(60) == 0;
        int limit = great ? 250 + pick(8) : pick(8) == 0 ? pick(300) - 20 : 1 + pick(5);
        int scratch = pick(2);
        Generations group = new Generations(limit, scratch);
        PlainModel model = new PlainModel(limit, scratch);
        int base = BASES[pick(BASES.length)];
        int spread = great || pick(6) == 0 ? WHOLE_CIRCLE : 3 + pick(12);
        int calls = great || pick(4) == 0 ? 512 : 80;
        int filling = great ? 250 : 0;
        for (int i = 0; i < filling; i++) {
            int number = 1 + pick(9999);
            same("run " + run + " call " + i + ": catalogue(" + number + ")",
                    () -> group.catalogue(number), () -> model.catalogue(number));
        }
        for (int i = filling; i < calls; i++) {
            aCall("run " + run + " call " + i + ": ", group, model, base, spread);
        }
    }

    private static int number(Generations group, int base, int spread) {
        if (spread == WHOLE_CIRCLE && pick(3) > 0) {
            return numberUsedBefore(group);
        }
        if (pick(40) == 0) {
            return pick(3) == 0 ? 0 : pick(10002);
        }
        int number = base + 1 + pick(spread);
        return pick(4) > 0 ? (number > 9999 ? number - 9999 : number) : 1 + pick(spread);
    }

    /** On the whole circle a number that is picked would hardly ever be one used before. */
    private static int numberUsedBefore(Generations group) {
        int making = group.count(4);
        return switch (pick(making == 0 ? 2 : 3)) {
            case 0 -> group.list(pick(1 + group.count(0)));
            case 1 -> group.dropped(pick(1 + group.count(5)));
            default -> group.relative(making, 1 + pick(5));
        };
    }

    private static void aCall(String at, Generations group, PlainModel model, int base, int spread) {
        int job = pick(30) == 0 ? pick(42) : 1 + pick(group.count(3) + (pick(20) == 0 ? 1 : 0) + 1);
        int n = pick(25) == 0 ? 95 + pick(8) : pick(8) - 2;
        int number = number(group, base, spread);
        int i = pick(8) - 1;
        boolean flag = pick(2) == 0;
        switch (pick(22)) {
            case 0, 1, 2 -> same(at + "catalogue(" + number + ")",
                    () -> group.catalogue(number), () -> model.catalogue(number));
            case 3 -> same(at + "job()", group::job, model::job);
            case 4, 5 -> same(at + "relative(" + job + ", " + n + ")",
                    () -> group.relative(job, n), () -> model.relative(job, n));
            case 6, 7, 8, 9 -> same(at + "make(" + job + ", " + n + ")",
                    () -> group.make(job, n), () -> model.make(job, n));
            case 10, 11, 12, 13 -> {
                int who = pick(3) > 0 ? group.count(4) : job;
                same(at + "end(" + who + ", " + number + ", " + flag + ")",
                        () -> group.end(who, number, flag), () -> model.end(who, number, flag));
            }
            case 14 -> same(at + "dropped(" + i + ")", () -> group.dropped(i), () -> model.dropped(i));
            case 15 -> same(at + "restart(" + job + ", " + i + ")",
                    () -> group.restart(job, i), () -> model.restart(job, i));
            case 16, 17 -> same(at + "reclaim(" + number + ")",
                    () -> group.reclaim(number), () -> model.reclaim(number));
            case 18 -> same(at + "empty(" + flag + ")", () -> group.empty(flag), () -> model.empty(flag));
            default -> everything(at, group, model, number);
        }
    }

    private static void everything(String at, Generations group, PlainModel model, int number) {
        for (int what = -1; what <= 6; what++) {
            check.due(at + "count(" + what + ")", model.count(what), group.count(what));
        }
        for (int i = -1; i <= model.count(0); i++) {
            check.due(at + "list(" + i + ")", model.list(i), group.list(i));
        }
        for (int near = number - 3; near <= number + 3; near++) {
            check.due(at + "state(" + near + ")", model.state(near), group.state(near));
            check.due(at + "version(" + near + ")", model.version(near), group.version(near));
        }
        int last = model.count(5) - 1;
        check.due(at + "dropped(" + last + ")", model.dropped(last), group.dropped(last));
        for (int job = 1; job <= model.count(3); job++) {
            int asking = job;
            for (int k = -3; k <= 5; k++) {
                int n = k;
                same(at + "relative(" + job + ", " + n + ")",
                        () -> group.relative(asking, n), () -> model.relative(asking, n));
            }
        }
    }

    private static void same(String call, Check.Call got, Check.Call want) {
        check.due(call, answer(want), answer(got));
    }

    private static int answer(Check.Call call) {
        try {
            return call.answer();
        } catch (IllegalArgumentException e) {
            return THREW;
        }
    }
}
