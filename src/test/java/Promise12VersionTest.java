/** Promise 12: version. */
public final class Promise12VersionTest {
    private static final Check check = new Check("promise 12");

    public static void main(String[] args) {
        Generations group = Groups.keeping(1);
        group.job();
        check.due("version(1), not there", -1, group.version(1));
        group.make(1, 1);
        check.due("version(1), waiting", 0, group.version(1));
        group.end(1, 1, true);
        check.due("version(1), failed", 0, group.version(1));
        group.reclaim(1);
        check.due("version(1), catalogued", 1, group.version(1));
        group.catalogue(2);
        check.due("version(1), loose", 1, group.version(1));
        check.due("version(2)", 0, group.version(2));
        for (int number : new int[] {0, -1, 3, 9999, 10000, Integer.MIN_VALUE, Integer.MAX_VALUE}) {
            check.due("version(" + number + ")", -1, group.version(number));
        }
        check.due("version(1), scratched", -1, Groups.scratching(1, 1, 2).version(1));
        check.finish();
    }
}
