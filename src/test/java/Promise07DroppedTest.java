/** Promise 7: dropped. */
public final class Promise07DroppedTest {
    private static final Check check = new Check("promise 7");

    public static void main(String[] args) {
        theIthFromZeroOn();
        oneNumberMoreThanOnce();
        byTheLimitAlone();
        allOfAFullRow();
        noneWhenThereIsNone();
        check.finish();
    }

    private static void theIthFromZeroOn() {
        check.sentence("The i-th number that went from the row by the limit, from 0 on");
        Generations group = Groups.keeping(2, 1, 2, 3);
        check.due("dropped(0)", 1, group.dropped(0));
        Groups.upTo(group, 4, 5);
        check.due("dropped(0)", 1, group.dropped(0));
        check.due("dropped(1)", 2, group.dropped(1));
        check.due("dropped(2)", 3, group.dropped(2));
        check.due("dropped(3)", -1, group.dropped(3));
    }

    private static void oneNumberMoreThanOnce() {
        check.sentence("The i-th number that went (each time that it goes)");
        Generations group = Groups.keeping(2, 1, 2, 3);
        group.reclaim(1);
        check.gone(group, 1, 1);
        group.catalogue(1);
        check.gone(group, 1, 1, 1);
        group.empty(true);
        group.catalogue(4);
        check.gone(group, 1, 1, 1, 2, 3);
    }

    private static void byTheLimitAlone() {
        check.sentence("that went from the row by the limit (nothing else is written down)");
        Generations group = Groups.withJobs(1, Groups.keeping(9, 5, 6));
        Groups.makeFailing(group, 1, 1);
        group.reclaim(7);
        group.empty(true);
        group.empty(false);
        check.gone(group);
    }

    private static void allOfAFullRow() {
        check.sentence("The i-th number that went (of a full row, by rule empty)");
        Generations group = new Generations(255, 0);
        group.empty(true);
        Groups.upTo(group, 1, 256);
        check.due("list(0)", 256, group.list(0));
        check.due("count(5)", 255, group.count(5));
        for (int i = 6; i < 255; i++) {
            check.due("dropped(" + i + ")", i + 1, group.dropped(i));
        }
        check.due("dropped(255)", -1, group.dropped(255));
    }

    private static void noneWhenThereIsNone() {
        check.sentence("NONE when there is none");
        Generations full = Groups.keeping(2, 1, 2);
        check.due("dropped(0) of a full row", -1, full.dropped(0));
        check.due("dropped(0) of a new group", -1, Groups.keeping(2).dropped(0));
        full.catalogue(3);
        for (int i : new int[] {-1, 1, 2, 511, 512, 513, 10000, Integer.MIN_VALUE, Integer.MAX_VALUE}) {
            check.due("dropped(" + i + ")", -1, full.dropped(i));
        }
    }
}
