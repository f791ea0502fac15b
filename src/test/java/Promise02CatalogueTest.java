/** Promise 2: catalogue, with the order and the limit of the row. */
public final class Promise02CatalogueTest {
    private static final Check check = new Check("promise 2");

    public static void main(String[] args) {
        answersHowMany();
        refusesWrongNumbers();
        refusesWhatIsThere();
        putsInOrder();
        goesAroundAtTheEnd();
        aheadMeansUpTo4999();
        putsBehindTheLastThatIsAhead();
        limitLetsTheOldestGo();
        ruleEmptyLeavesTheNewest();
        versionOfLooseStays();
        versionOfScratchedIsNew();
        check.finish();
    }

    private static void answersHowMany() {
        Generations group = Groups.keeping(2);
        check.due("catalogue(7)", 1, group.catalogue(7));
        check.due("catalogue(8)", 2, group.catalogue(8));
        check.due("catalogue(9)", 2, group.catalogue(9));
        check.due("state(9)", 1, group.state(9));
        check.due("version(9)", 0, group.version(9));
    }

    private static void refusesWrongNumbers() {
        Generations group = Groups.keeping(9);
        for (int number : new int[] {0, -1, 10000, Integer.MIN_VALUE, Integer.MAX_VALUE}) {
            check.due("catalogue(" + number + ")", -1, group.catalogue(number));
        }
        check.row(group);
        check.due("catalogue(1)", 1, group.catalogue(1));
        check.due("catalogue(9999)", 2, group.catalogue(9999));
    }

    private static void refusesWhatIsThere() {
        Generations group = Groups.keeping(9, 5);
        check.due("catalogue of one in the row", -1, group.catalogue(5));
        group.job();
        group.make(1, 1);
        check.due("catalogue of one that waits", -1, group.catalogue(6));
        check.due("it waits on", 2, group.state(6));
        group.end(1, 6, true);
        check.due("catalogue of one that failed", -1, group.catalogue(6));
        check.due("it is deferred", 3, group.state(6));
        check.row(group, 5);
    }

    private static void putsInOrder() {
        check.row(Groups.keeping(9, 30, 10, 20, 40, 5), 5, 10, 20, 30, 40);
    }

    private static void goesAroundAtTheEnd() {
        check.row(Groups.keeping(9, 9999, 1, 9998, 2), 9998, 9999, 1, 2);
    }

    private static void aheadMeansUpTo4999() {
        check.row(Groups.keeping(9, 1, 5000), 1, 5000);
        check.row(Groups.keeping(9, 1, 5001), 5001, 1);
        check.row(Groups.keeping(9, 5001, 1), 5001, 1);
        check.row(Groups.keeping(9, 5000, 1), 1, 5000);
        check.row(Groups.keeping(9, 9999, 4999), 9999, 4999);
        check.row(Groups.keeping(9, 9999, 5000), 5000, 9999);
    }

    private static void putsBehindTheLastThatIsAhead() {
        // 1, 4000, 8000: a row that goes around; 3000 has 1 and 8000 ahead of it, but not 4000.
        check.row(Groups.keeping(9, 1, 4000, 8000, 3000), 1, 4000, 8000, 3000);
    }

    private static void limitLetsTheOldestGo() {
        Generations group = Groups.scratching(3, 10, 20, 30);
        check.due("catalogue(40)", 3, group.catalogue(40));
        check.row(group, 20, 30, 40);
        check.due("catalogue(15), the oldest", 3, group.catalogue(15));
        check.row(group, 20, 30, 40);
        check.gone(group, 10, 15);
        check.due("state(15)", 0, group.state(15));
    }

    private static void ruleEmptyLeavesTheNewest() {
        Generations group = Groups.keeping(3, 10, 20, 30);
        group.empty(true);
        check.due("catalogue(25)", 1, group.catalogue(25));
        check.row(group, 30);
        check.gone(group, 10, 20, 25);
        check.due("count(2)", 3, group.count(2));
    }

    private static void versionOfLooseStays() {
        Generations group = Groups.keeping(2, 1, 2, 3);
        check.due("reclaim(1)", 1, group.reclaim(1));
        check.due("version(1)", 1, group.version(1));
        check.due("state(1)", 4, group.state(1));
        check.due("catalogue(1)", 2, group.catalogue(1));
        check.due("version(1) after catalogue", 1, group.version(1));
        Generations wide = Groups.keeping(2, 1, 2);
        wide.empty(true);
        wide.catalogue(3);
        check.due("catalogue(2), loose", 2, wide.catalogue(2));
        check.row(wide, 2, 3);
        check.due("state(2)", 1, wide.state(2));
    }

    private static void versionOfScratchedIsNew() {
        Generations group = Groups.scratching(2);
        group.job();
        group.make(1, 1);
        group.end(1, 1, true);
        group.reclaim(1);
        check.due("version(1), reclaimed", 1, group.version(1));
        group.empty(true);
        group.catalogue(2);
        group.catalogue(3);
        check.due("version(1), scratched", -1, group.version(1));
        check.due("catalogue(1)", 2, group.catalogue(1));
        check.due("version(1), from elsewhere", 0, group.version(1));
        check.due("relative(1, 1) is not the job's", -1, group.relative(1, 1));
        check.due("make(1, 1) of one in the row", -1, group.make(1, 1));
    }
}
