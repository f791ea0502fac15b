/**
 * No call throws anything that the document does not name, whatever its arguments, and also after
 * more calls than an object is used for.
 */
public final class EveryArgumentTest {
    private static final int[] ARGUMENTS = {
        Integer.MIN_VALUE, Integer.MIN_VALUE + 1, -10000, -256, -2, -1, 0, 1, 2, 3, 39, 40, 41, 98, 99, 100, 254,
        255, 256, 257, 511, 512, 513, 4999, 5000, 9998, 9999, 10000, Integer.MAX_VALUE - 1, Integer.MAX_VALUE};
    private static final Check check = new Check("every argument");

    public static void main(String[] args) {
        for (int limit : ARGUMENTS) {
            for (int scratch = 0; scratch <= 1; scratch++) {
                Generations group = new Generations(limit, scratch);
                everyCall(group);
                fill(group);
                everyCall(group);
                group.empty(true);
                fill(group);
                everyCall(group);
            }
        }
        check.finish();
    }

    private static void fill(Generations group) {
        for (int i = 0; i < 50; i++) {
            group.job();
        }
        for (int i = 1; i <= 1200; i++) {
            group.catalogue(i * 7 % 10000);
            int job = 1 + i % 40;
            int made = group.make(job, 1 + i % 99);
            group.end(job, made, i % 3 == 0);
            group.reclaim(i * 7 % 3000);
        }
    }

    private static void everyCall(Generations group) {
        for (int a : ARGUMENTS) {
            mayNotThrow("catalogue", () -> group.catalogue(a));
            mayNotThrow("job", group::job);
            mayNotThrow("dropped", () -> group.dropped(a));
            mayNotThrow("list", () -> group.list(a));
            mayNotThrow("reclaim", () -> group.reclaim(a));
            mayNotThrow("empty", () -> group.empty(a > 0));
            mayNotThrow("version", () -> group.version(a));
            mayNotThrow("state", () -> group.state(a));
            mayNotThrow("count", () -> group.count(a));
            for (int b : ARGUMENTS) {
                boolean noJob = a < 1 || a > group.count(3);
                mustThrowIf(noJob || b > 99, "relative", () -> group.relative(a, b));
                mustThrowIf(noJob || b < 1 || b > 99, "make", () -> group.make(a, b));
                mustThrowIf(noJob, "end", () -> group.end(a, b, b % 2 == 0));
                mustThrowIf(noJob, "restart", () -> group.restart(a, b));
            }
        }
    }

    private static void mustThrowIf(boolean due, String name, Check.Call call) {
        if (due) {
            check.refused(name, call);
        } else {
            mayNotThrow(name, call);
        }
    }

    private static void mayNotThrow(String name, Check.Call call) {
        try {
            check.due(name + " answers", 1, call.answer() >= -1 ? 1 : 0);
        } catch (RuntimeException e) {
            check.complain(name + " threw " + e);
        }
    }
}
