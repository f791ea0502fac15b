/** Promise 7: dropped. */
public final class Promise07DroppedTest {
    private static final Check check = new Check("promise 7");

    public static void main(String[] args) {
        Generations group = Groups.keeping(2, 1, 2);
        check.due("dropped(0)", -1, group.dropped(0));
        group.catalogue(3);
        check.gone(group, 1);
        group.reclaim(1);
        check.gone(group, 1, 1);
        group.empty(true);
        group.catalogue(4);
        check.gone(group, 1, 1, 2, 3);
        for (int i : new int[] {-1, 4, Integer.MIN_VALUE, Integer.MAX_VALUE}) {
            check.due("dropped(" + i + ")", -1, group.dropped(i));
        }
        asManyAsCalls();
        allOfAFullRow();
        check.finish();
    }

    private static void asManyAsCalls() {
        Generations group = Groups.scratching(1);
        for (int number = 1; number <= 509; number++) {
            group.catalogue(number);
        }
        check.due("count(5)", 508, group.count(5));
        check.due("dropped(507)", 508, group.dropped(507));
        check.due("dropped(508)", -1, group.dropped(508));
    }

    private static void allOfAFullRow() {
        Generations group = Groups.keeping(255);
        group.empty(true);
        for (int number = 1; number <= 256; number++) {
            group.catalogue(number);
        }
        check.row(group, 256);
        check.due("count(5)", 255, group.count(5));
        for (int i = 0; i < 250; i++) {
            check.due("dropped(" + i + ")", i + 1, group.dropped(i));
        }
    }
}
