/** Promise 9: list. */
public final class Promise09ListTest {
    private static final Check check = new Check("promise 9");

    public static void main(String[] args) {
        theOldestFirst();
        cataloguedOnesAlone();
        fullRow();
        noneWhenThereIsNone();
        check.finish();
    }

    private static void theOldestFirst() {
        check.sentence("The i-th catalogued number, the oldest first");
        Generations group = Groups.keeping(3, 9999, 2, 9997);
        check.due("list(0)", 9997, group.list(0));
        check.due("list(1)", 9999, group.list(1));
        check.due("list(2)", 2, group.list(2));
        group.catalogue(3);
        check.due("list(0), the oldest has gone", 9999, group.list(0));
        check.due("list(2)", 3, group.list(2));
    }

    private static void cataloguedOnesAlone() {
        check.sentence("The i-th catalogued number (not deferred, not loose)");
        Generations group = Groups.withJobs(1, Groups.keeping(2, 1, 2, 3));
        group.make(1, 1);
        Groups.makeFailing(group, 1, 2);
        check.row(group, 2, 3);
    }

    private static void fullRow() {
        check.sentence("The i-th catalogued number (of a full row)");
        Generations group = Groups.upTo(new Generations(255, 1), 1, 256);
        check.due("list(0)", 2, group.list(0));
        check.due("list(253)", 255, group.list(253));
        check.due("list(254)", 256, group.list(254));
        check.due("list(255)", -1, group.list(255));
        check.due("list(256)", -1, group.list(256));
    }

    private static void noneWhenThereIsNone() {
        check.sentence("NONE when there is none");
        Generations group = Groups.keeping(3, 5, 6);
        for (int i : new int[] {-1, 2, 3, 254, 255, 256, 10000, Integer.MIN_VALUE, Integer.MAX_VALUE}) {
            check.due("list(" + i + ")", -1, group.list(i));
        }
        check.due("list(0) of an empty row", -1, Groups.keeping(3).list(0));
        Generations emptied = Groups.keeping(3, 1, 2, 3);
        emptied.empty(true);
        emptied.catalogue(4);
        check.due("list(0)", 4, emptied.list(0));
        check.due("list(1), emptied", -1, emptied.list(1));
        check.due("list(3), emptied", -1, emptied.list(3));
    }
}
