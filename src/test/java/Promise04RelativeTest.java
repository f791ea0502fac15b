/** Promise 4: relative. */
public final class Promise04RelativeTest {
    private static final Check check = new Check("promise 4");

    public static void main(String[] args) {
        countsFromTheNewest();
        onlyWhatIsStillCatalogued();
        newOnesInEachState();
        newOneThatCameBack();
        newOneMadeAnewByAnother();
        refusals();
        check.finish();
    }

    private static void countsFromTheNewest() {
        Generations group = Groups.keeping(9, 9998, 9999, 1);
        group.job();
        group.catalogue(2);
        group.catalogue(9990);
        check.due("relative(1, 0)", 1, group.relative(1, 0));
        check.due("relative(1, -1)", 9999, group.relative(1, -1));
        check.due("relative(1, -2)", 9998, group.relative(1, -2));
        check.due("relative(1, -3)", -1, group.relative(1, -3));
        check.due("relative(1, MIN_VALUE)", -1, group.relative(1, Integer.MIN_VALUE));
        check.due("relative(1, 1), not made", -1, group.relative(1, 1));
        Generations nothing = Groups.keeping(9);
        nothing.job();
        nothing.catalogue(1);
        check.due("relative(1, 0) of an empty row", -1, nothing.relative(1, 0));
    }

    private static void onlyWhatIsStillCatalogued() {
        Generations group = Groups.keeping(2, 1, 2);
        group.job();
        group.catalogue(3);
        check.due("relative(1, -1), loose", -1, group.relative(1, -1));
        check.due("relative(1, 0)", 2, group.relative(1, 0));
        group.empty(true);
        group.catalogue(4);
        check.due("relative(1, 0), loose", -1, group.relative(1, 0));
        group.reclaim(2);
        check.due("relative(1, 0), back", 2, group.relative(1, 0));
    }

    private static void newOnesInEachState() {
        Generations group = Groups.keeping(2, 9998);
        group.job();
        group.make(1, 2);
        check.due("relative(1, 2), waiting", 1, group.relative(1, 2));
        check.due("relative(1, 1), not made", -1, group.relative(1, 1));
        group.end(1, 1, true);
        check.due("relative(1, 2), failed", 1, group.relative(1, 2));
        group.reclaim(1);
        check.due("relative(1, 2), catalogued", 1, group.relative(1, 2));
        group.catalogue(2);
        group.catalogue(3);
        check.due("state(1)", 4, group.state(1));
        check.due("relative(1, 2), loose", -1, group.relative(1, 2));
        check.due("relative(1, 3), from elsewhere", -1, group.relative(1, 3));
        check.due("relative(1, 99)", -1, group.relative(1, 99));
    }

    private static void newOneThatCameBack() {
        Generations group = Groups.keeping(2);
        group.job();
        group.make(1, 1);
        group.end(1, 1, false);
        group.empty(true);
        group.catalogue(2);
        group.catalogue(3);
        check.due("relative(1, 1), loose", -1, group.relative(1, 1));
        group.reclaim(1);
        check.due("relative(1, 1), reclaimed", 1, group.relative(1, 1));
    }

    private static void newOneMadeAnewByAnother() {
        Generations group = Groups.scratching(1);
        group.job();
        group.job();
        group.make(1, 1);
        check.due("relative(2, 1), another's", -1, group.relative(2, 1));
        group.end(1, 1, false);
        group.catalogue(2);
        check.due("relative(1, 1), gone", -1, group.relative(1, 1));
        check.due("make(2, 1)", 1, group.make(2, 1));
        check.due("relative(1, 1), made anew", -1, group.relative(1, 1));
        check.due("relative(2, 1)", 1, group.relative(2, 1));
    }

    private static void refusals() {
        Generations group = Groups.keeping(3, 1);
        check.refused("relative(1, 0) before a job", () -> group.relative(1, 0));
        group.job();
        for (int job : new int[] {0, -1, 2, 41, Integer.MIN_VALUE, Integer.MAX_VALUE}) {
            check.refused("relative(" + job + ", 0)", () -> group.relative(job, 0));
        }
        check.refused("relative(1, 100)", () -> group.relative(1, 100));
        check.refused("relative(1, MAX_VALUE)", () -> group.relative(1, Integer.MAX_VALUE));
    }
}
