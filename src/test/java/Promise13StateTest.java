/** Promise 13: state. */
public final class Promise13StateTest {
    private static final Check check = new Check("promise 13");

    public static void main(String[] args) {
        Generations group = Groups.keeping(1);
        group.job();
        check.due("state(1), not there", 0, group.state(1));
        group.make(1, 1);
        check.due("state(1), waiting", 2, group.state(1));
        group.end(1, 1, true);
        check.due("state(1), failed", 3, group.state(1));
        group.restart(1, 1);
        check.due("state(1), waiting again", 2, group.state(1));
        group.end(1, 1, false);
        check.due("state(1), catalogued", 1, group.state(1));
        group.catalogue(2);
        check.due("state(1), loose", 4, group.state(1));
        check.due("state(9999)", 0, group.state(9999));
        for (int number : new int[] {0, -1, 10000, Integer.MIN_VALUE, Integer.MAX_VALUE}) {
            check.due("state(" + number + ")", -1, group.state(number));
        }
        check.due("state(1), scratched", 0, Groups.scratching(1, 1, 2).state(1));
        check.finish();
    }
}
