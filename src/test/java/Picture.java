/**
 * What can be seen of a group without changing it, for small groups: the tests that use it keep to
 * numbers up to MOST, and those just ahead of 1, so that an object's 512 calls are enough for several.
 */
final class Picture {
    private static final int MOST = 12;
    private static final int LAST = 9999;

    private Picture() {
    }

    static String of(Generations group) {
        StringBuilder seen = new StringBuilder("counts");
        int[] counts = new int[6];
        for (int what = 0; what < counts.length; what++) {
            counts[what] = group.count(what);
            seen.append(' ').append(counts[what]);
        }
        seen.append(", row");
        for (int i = 0; i < counts[0]; i++) {
            seen.append(' ').append(group.list(i));
        }
        seen.append(", dropped");
        for (int i = 0; i < counts[5]; i++) {
            seen.append(' ').append(group.dropped(i));
        }
        seen.append(", states and versions");
        for (int number = 1; number <= MOST; number++) {
            number(seen, group, number);
        }
        for (int number = LAST - 2; number <= LAST; number++) {
            number(seen, group, number);
        }
        seen.append(", relatives");
        for (int job = 1; job <= Math.min(counts[3], 3); job++) {
            for (int n = -2; n <= 3; n++) {
                seen.append(' ').append(group.relative(job, n));
            }
        }
        return seen.toString();
    }

    private static void number(StringBuilder seen, Generations group, int number) {
        int state = group.state(number);
        if (state != 0) {
            seen.append(' ').append(number).append(':').append(state).append('/').append(group.version(number));
        }
    }
}
