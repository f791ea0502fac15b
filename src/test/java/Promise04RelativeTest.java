/** Promise 4: relative. */
public final class Promise04RelativeTest {
    private static final Check check = new Check("promise 4");

    public static void main(String[] args) {
        theNewest();
        theOnesAheadOfIt();
        aheadOfTheOldest();
        rowAtItsBeginning();
        stillCatalogued();
        newOneThatItHasMade();
        newOneThatItHasNotMade();
        cataloguedOrDeferred();
        notGone();
        notMadeAnewByAnother();
        noSuchJob();
        above99();
        check.finish();
    }

    private static void theNewest() {
        check.sentence("0: the newest of the row at its beginning");
        check.due("relative(1, 0)", 7, Groups.withJobs(1, Groups.keeping(9, 7)).relative(1, 0));
        check.due("relative(1, 0)", 7, Groups.withJobs(1, Groups.keeping(9, 7, 6)).relative(1, 0));
        check.due("relative(1, 0)", 2, Groups.withJobs(1, Groups.keeping(9, 9999, 2)).relative(1, 0));
        Generations nothing = Groups.withJobs(1, Groups.keeping(9));
        nothing.catalogue(1);
        check.due("relative(1, 0) of an empty row", -1, nothing.relative(1, 0));
    }

    private static void theOnesAheadOfIt() {
        check.sentence("-1, ..: the one ahead of it, ..");
        Generations group = Groups.withJobs(1, Groups.keeping(9, 1, 9999, 9998));
        check.due("relative(1, -1)", 9999, group.relative(1, -1));
        check.due("relative(1, -2)", 9998, group.relative(1, -2));
        Generations full = Groups.withJobs(1, Groups.upTo(new Generations(255, 0), 1, 255));
        check.due("relative(1, -99)", 156, full.relative(1, -99));
        check.due("relative(1, -100)", 155, full.relative(1, -100));
        check.due("relative(1, -254)", 1, full.relative(1, -254));
    }

    private static void aheadOfTheOldest() {
        check.sentence("NONE if there is none such");
        Generations full = Groups.withJobs(1, Groups.upTo(new Generations(255, 0), 1, 255));
        Generations two = Groups.withJobs(1, Groups.keeping(9, 5, 6));
        Generations nothing = Groups.withJobs(1, Groups.keeping(9));
        check.due("relative(1, -255)", -1, full.relative(1, -255));
        check.due("relative(1, -256)", -1, full.relative(1, -256));
        check.due("relative(1, -1)", 5, two.relative(1, -1));
        check.due("relative(1, -2)", -1, two.relative(1, -2));
        check.due("relative(1, -1), empty", -1, nothing.relative(1, -1));
        for (Generations group : new Generations[] {full, two, nothing}) {
            for (int n : new int[] {-9999, -65536, Integer.MIN_VALUE + 1, Integer.MIN_VALUE}) {
                check.due("relative(1, " + n + ")", -1, group.relative(1, n));
            }
        }
    }

    private static void rowAtItsBeginning() {
        check.sentence("of the row at its beginning");
        Generations group = Groups.withJobs(1, Groups.keeping(9, 5, 7));
        group.catalogue(8);
        group.catalogue(6);
        group.catalogue(4);
        Groups.makeWell(group, 1, 2);
        check.row(group, 4, 5, 6, 7, 8, 9);
        check.due("relative(1, 0)", 7, group.relative(1, 0));
        check.due("relative(1, -1)", 5, group.relative(1, -1));
        check.due("relative(1, -2)", -1, group.relative(1, -2));
    }

    private static void stillCatalogued() {
        check.sentence("if it is still catalogued");
        Generations group = Groups.withJobs(1, Groups.keeping(3, 1, 2, 3));
        group.catalogue(4);
        check.due("relative(1, -2), loose", -1, group.relative(1, -2));
        check.due("relative(1, -1)", 2, group.relative(1, -1));
        check.due("relative(1, 0)", 3, group.relative(1, 0));
        group.empty(true);
        group.catalogue(5);
        check.due("relative(1, 0), loose", -1, group.relative(1, 0));
        group.reclaim(2);
        check.due("relative(1, -1), back", 2, group.relative(1, -1));
        group.catalogue(3);
        check.due("relative(1, 0), back", 3, group.relative(1, 0));
        Generations scratched = Groups.withJobs(1, Groups.scratching(1, 1));
        scratched.catalogue(2);
        check.due("relative(1, 0), scratched", -1, scratched.relative(1, 0));
    }

    private static void newOneThatItHasMade() {
        check.sentence("1 ..: its new one, if it has made it");
        Generations group = Groups.withJobs(1, Groups.keeping(2, 9998));
        group.make(1, 1);
        group.make(1, 2);
        group.make(1, 99);
        check.due("relative(1, 1)", 9999, group.relative(1, 1));
        check.due("relative(1, 2)", 1, group.relative(1, 2));
        check.due("relative(1, 99)", 98, group.relative(1, 99));
        check.due("relative(1, 0)", 9998, group.relative(1, 0));
    }

    private static void newOneThatItHasNotMade() {
        check.sentence("NONE if there is none such (that it has made)");
        Generations group = Groups.withJobs(2, Groups.keeping(2));
        check.due("relative(1, 1), not there", -1, group.relative(1, 1));
        check.due("relative(1, 99), not there", -1, group.relative(1, 99));
        group.catalogue(1);
        check.due("relative(1, 1), from elsewhere", -1, group.relative(1, 1));
        group.make(2, 2);
        check.due("relative(1, 2), another's that waits", -1, group.relative(1, 2));
        group.end(2, 2, true);
        check.due("relative(1, 2), another's that failed", -1, group.relative(1, 2));
        group.reclaim(2);
        check.due("relative(1, 2), another's in the row", -1, group.relative(1, 2));
        check.due("relative(2, 2)", 2, group.relative(2, 2));
        check.due("make(1, 2), refused", -1, group.make(1, 2));
        check.due("relative(1, 2) after that", -1, group.relative(1, 2));
    }

    private static void cataloguedOrDeferred() {
        check.sentence("and that is catalogued or deferred");
        Generations group = Groups.withJobs(1, Groups.keeping(2));
        group.make(1, 1);
        check.due("relative(1, 1), waiting", 1, group.relative(1, 1));
        group.end(1, 1, true);
        check.due("relative(1, 1), failed", 1, group.relative(1, 1));
        group.restart(1, 1);
        check.due("relative(1, 1), waiting again", 1, group.relative(1, 1));
        group.end(1, 1, false);
        check.due("relative(1, 1), catalogued", 1, group.relative(1, 1));
        Groups.makeFailing(group, 1, 2);
        group.reclaim(2);
        check.due("relative(1, 2), reclaimed", 2, group.relative(1, 2));
    }

    private static void notGone() {
        check.sentence("(not gone since)");
        Generations kept = Groups.withJobs(1, Groups.keeping(2));
        Groups.makeWell(kept, 1, 1);
        kept.empty(true);
        Groups.upTo(kept, 2, 3);
        check.due("relative(1, 1), loose", -1, kept.relative(1, 1));
        kept.reclaim(1);
        check.due("relative(1, 1), the same one is back", 1, kept.relative(1, 1));
        Generations scratched = Groups.withJobs(1, Groups.scratching(2));
        Groups.makeWell(scratched, 1, 1);
        scratched.empty(true);
        Groups.upTo(scratched, 2, 3);
        check.due("relative(1, 1), scratched", -1, scratched.relative(1, 1));
        scratched.catalogue(1);
        check.due("state(1)", 1, scratched.state(1));
        check.due("relative(1, 1), another with its number", -1, scratched.relative(1, 1));
    }

    private static void notMadeAnewByAnother() {
        check.sentence("(not made anew by another one, since)");
        Generations group = Groups.withJobs(2, Groups.scratching(1));
        Groups.makeWell(group, 1, 1);
        group.catalogue(2);
        check.due("make(2, 1)", 1, group.make(2, 1));
        check.due("relative(1, 1), waiting", -1, group.relative(1, 1));
        check.due("relative(2, 1)", 1, group.relative(2, 1));
        group.end(2, 1, true);
        check.due("relative(1, 1), failed", -1, group.relative(1, 1));
        Generations back = Groups.withJobs(1, Groups.scratching(1));
        Groups.makeWell(back, 1, 1);
        back.catalogue(2);
        back.make(1, 1);
        check.due("relative(1, 1), made anew by itself", 1, back.relative(1, 1));
    }

    private static void noSuchJob() {
        check.sentence("IllegalArgumentException when there is no such job");
        Generations group = Groups.keeping(3, 1);
        check.refused("relative(1, 0) before a job", () -> group.relative(1, 0));
        check.refused("relative(0, 0) before a job", () -> group.relative(0, 0));
        group.job();
        String before = Picture.of(group);
        for (int job : new int[] {0, -1, 2, 40, 41, Integer.MIN_VALUE, Integer.MAX_VALUE}) {
            for (int n : new int[] {Integer.MIN_VALUE, -1, 0, 1, 99, 100}) {
                check.refused("relative(" + job + ", " + n + ")", () -> group.relative(job, n));
            }
        }
        check.unchanged(group, "refused calls", before);
        check.due("relative(1, 0)", 1, group.relative(1, 0));
        Generations full = Groups.withJobs(41, Groups.keeping(3, 1));
        check.due("relative(40, 0)", 1, full.relative(40, 0));
        check.refused("relative(41, 0)", () -> full.relative(41, 0));
    }

    private static void above99() {
        check.sentence("IllegalArgumentException when n is above 99");
        Generations group = Groups.withJobs(1, Groups.keeping(3, 1));
        check.due("relative(1, 99)", -1, group.relative(1, 99));
        for (int n : new int[] {100, 101, 9999, 10000, Integer.MAX_VALUE}) {
            check.refusedChangingNothing(group, "relative(1, " + n + ")", () -> group.relative(1, n));
        }
    }
}
