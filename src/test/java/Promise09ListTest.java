/** Promise 9: list. */
public final class Promise09ListTest {
    private static final Check check = new Check("promise 9");

    public static void main(String[] args) {
        Generations group = Groups.keeping(3, 9999, 2, 9997);
        check.due("list(0)", 9997, group.list(0));
        check.due("list(1)", 9999, group.list(1));
        check.due("list(2)", 2, group.list(2));
        for (int i : new int[] {-1, 3, 255, 256, Integer.MIN_VALUE, Integer.MAX_VALUE}) {
            check.due("list(" + i + ")", -1, group.list(i));
        }
        group.empty(true);
        group.catalogue(3);
        check.row(group, 3);
        check.due("list(1), gone", -1, group.list(1));
        fullRow();
        check.finish();
    }

    private static void fullRow() {
        Generations group = Groups.scratching(255);
        for (int number = 1; number <= 256; number++) {
            group.catalogue(number);
        }
        check.due("list(0) of a full row", 2, group.list(0));
        check.due("list(254) of a full row", 256, group.list(254));
        check.due("list(255) of a full row", -1, group.list(255));
    }
}
