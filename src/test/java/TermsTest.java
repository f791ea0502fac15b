/** The document's terms: each sentence there that names a boundary. */
public final class TermsTest {
    private static final Check check = new Check("terms");

    public static void main(String[] args) {
        numbersOfGenerations();
        behindTheLastComesOne();
        rowFromOldestToNewest();
        atMostLimit();
        versionAtFirst();
        deferred();
        loose();
        jobNumbers();
        keepsTheRow();
        baseIsTheNewest();
        baseOfAnEmptyRow();
        plus();
        oneJobAtATime();
        untilNoneWaits();
        whatDoesNotBeginMaking();
        behindTheLastThatIsAhead();
        ahead();
        atItsBeginning();
        moreThanLimit();
        byRuleEmpty();
        elseTheOldest();
        looseOrNotThere();
        writtenDown();
        check.finish();
    }

    private static void numbersOfGenerations() {
        check.sentence("NUMBERS of generations are 1 .. 9999");
        Generations group = Groups.keeping(9);
        check.due("catalogue(1)", 1, group.catalogue(1));
        check.due("catalogue(9999)", 2, group.catalogue(9999));
        check.due("version(1)", 0, group.version(1));
        check.due("version(9999)", 0, group.version(9999));
        for (int number : new int[] {0, 10000}) {
            check.due("state(" + number + ")", -1, group.state(number));
            check.due("version(" + number + ")", -1, group.version(number));
            check.due("catalogue(" + number + ")", -1, group.catalogue(number));
            check.due("reclaim(" + number + ")", 0, group.reclaim(number));
        }
    }

    private static void behindTheLastComesOne() {
        check.sentence("behind 9999 comes 1");
        Generations group = Groups.withJobs(1, Groups.keeping(9, 9999));
        check.due("make(1, 1)", 1, group.make(1, 1));
        group.end(1, 1, false);
        check.row(group, 9999, 1);
        group.job();
        check.due("make(2, 1)", 2, group.make(2, 1));
    }

    private static void rowFromOldestToNewest() {
        check.sentence("a row of CATALOGUED ones, from the oldest to the newest");
        check.row(Groups.keeping(9, 30, 10, 20, 40, 5), 5, 10, 20, 30, 40);
        check.row(Groups.keeping(9, 9999, 1, 9998, 2), 9998, 9999, 1, 2);
    }

    private static void atMostLimit() {
        check.sentence("at most limit");
        for (int limit : new int[] {1, 2, 3, 200, 255}) {
            Generations group = Groups.upTo(new Generations(limit, 1), 1, limit);
            check.due("count(0) of a full row of " + limit, limit, group.count(0));
            check.due("none has gone by limit " + limit, 0, group.count(5));
            group.catalogue(limit + 1);
            check.due("count(0) with one more than " + limit, limit, group.count(0));
            check.due("one has gone by limit " + limit, 1, group.count(5));
        }
    }

    private static void versionAtFirst() {
        check.sentence("each has a VERSION (0 at first)");
        Generations group = Groups.withJobs(1, Groups.keeping(9, 5));
        Groups.makeWell(group, 1, 1);
        check.due("version(5), from elsewhere", 0, group.version(5));
        check.due("version(6), of a job", 0, group.version(6));
    }

    private static void deferred() {
        check.sentence("DEFERRED (made, not catalogued: a job's that has not ended them, or whose step failed)");
        Generations group = Groups.withJobs(1, Groups.keeping(1, 5));
        group.make(1, 1);
        check.due("state(6), not ended", 2, group.state(6));
        Groups.makeFailing(group, 1, 2);
        check.due("state(7), failed", 3, group.state(7));
        check.due("deferred ones are not held to the limit", 2, group.count(1));
        check.row(group, 5);
        check.gone(group);
    }

    private static void loose() {
        check.sentence("LOOSE (gone from the row, but there), or are not there");
        Generations group = Groups.keeping(1, 5, 6);
        check.due("state(5)", 4, group.state(5));
        check.due("version(5)", 0, group.version(5));
        check.due("state(7)", 0, group.state(7));
        check.row(group, 6);
    }

    private static void jobNumbers() {
        check.sentence("A JOB (numbers from 1 on, at most 40 in all)");
        Generations group = Groups.keeping(1);
        check.due("the first job", 1, group.job());
        Groups.withJobs(38, group);
        check.due("the 40th job", 40, group.job());
        check.due("the 41st job", -1, group.job());
        check.due("make(40, 1)", 1, group.make(40, 1));
        check.refused("make(41, 1)", () -> group.make(41, 1));
        check.refused("make(0, 1)", () -> group.make(0, 1));
    }

    private static void keepsTheRow() {
        check.sentence("keeps from its beginning the row as it was then");
        Generations group = Groups.withJobs(1, Groups.keeping(9, 5, 7));
        group.catalogue(6);
        group.catalogue(8);
        group.catalogue(4);
        group.job();
        check.due("relative(1, 0)", 7, group.relative(1, 0));
        check.due("relative(1, -1)", 5, group.relative(1, -1));
        check.due("relative(1, -2)", -1, group.relative(1, -2));
        check.due("relative(2, -1)", 7, group.relative(2, -1));
        check.due("relative(2, -4)", 4, group.relative(2, -4));
    }

    private static void baseIsTheNewest() {
        check.sentence("its BASE is the newest number of it");
        Generations around = Groups.withJobs(1, Groups.keeping(9, 9999, 3));
        check.due("make(1, 1): the newest, not the greatest", 4, around.make(1, 1));
        Generations last = Groups.withJobs(1, Groups.keeping(9, 8, 6));
        check.due("make(1, 1): the newest, not the last that came", 9, last.make(1, 1));
        Generations gone = Groups.keeping(2, 5, 6);
        gone.job();
        gone.empty(true);
        gone.catalogue(7);
        gone.catalogue(8);
        gone.catalogue(9);
        check.due("state(6)", 4, gone.state(6));
        check.due("make(1, 4): the base stays, gone or not", 10, gone.make(1, 4));
    }

    private static void baseOfAnEmptyRow() {
        check.sentence("(0 if there was none)");
        Generations group = Groups.withJobs(1, Groups.keeping(9));
        group.catalogue(50);
        check.due("make(1, 1)", 1, group.make(1, 1));
        check.due("make(1, 99)", 99, group.make(1, 99));
        check.due("relative(1, 0)", -1, group.relative(1, 0));
    }

    private static void plus() {
        check.sentence("PLUS n (1 .. 99) means for it n numbers behind its base");
        plus(1, 1, 2);
        plus(1, 99, 100);
        plus(9900, 99, 9999);
        plus(9901, 99, 1);
        plus(9998, 1, 9999);
        plus(9998, 2, 1);
        plus(9999, 1, 1);
        plus(9999, 99, 99);
    }

    private static void plus(int base, int n, int number) {
        Generations group = Groups.withJobs(1, Groups.keeping(9, base));
        String call = "(1, " + n + ") behind " + base;
        check.due("make" + call, number, group.make(1, n));
        check.due("relative" + call, number, group.relative(1, n));
        check.due("state(" + number + ")", 2, group.state(number));
    }

    private static void oneJobAtATime() {
        check.sentence("One job at a time makes: from its first new one on .. others can't");
        Generations group = Groups.withJobs(3, Groups.keeping(9));
        check.due("count(4) before", 0, group.count(4));
        check.due("make(2, 5)", 5, group.make(2, 5));
        check.due("count(4)", 2, group.count(4));
        check.due("make(1, 6)", -1, group.make(1, 6));
        check.due("make(3, 6)", -1, group.make(3, 6));
        check.due("state(6)", 0, group.state(6));
        check.due("make(2, 6), it makes itself", 6, group.make(2, 6));
    }

    private static void untilNoneWaits() {
        check.sentence("until none of its own is waiting to be ended");
        Generations group = Groups.withJobs(2, Groups.keeping(9));
        group.make(1, 1);
        group.make(1, 2);
        group.end(1, 2, false);
        check.due("make(2, 5), 1 waits", -1, group.make(2, 5));
        check.due("count(4), 1 waits", 1, group.count(4));
        group.end(1, 1, true);
        check.due("count(4), none waits", 0, group.count(4));
        check.due("make(2, 5), none waits", 5, group.make(2, 5));
        check.due("make(1, 6), 5 waits", -1, group.make(1, 6));
        group.end(2, 5, false);
        check.due("make(1, 6), none waits", 6, group.make(1, 6));
    }

    private static void whatDoesNotBeginMaking() {
        check.sentence("from its first new one on");
        Generations group = Groups.withJobs(2, Groups.keeping(9));
        check.due("count(4), jobs alone", 0, group.count(4));
        Groups.makeFailing(group, 1, 1);
        group.make(1, 1);
        check.due("count(4), made before", 0, group.count(4));
        group.catalogue(2);
        group.make(2, 2);
        check.due("count(4), refused", 0, group.count(4));
        group.reclaim(1);
        check.due("count(4), reclaimed", 0, group.count(4));
        check.due("make(2, 3)", 3, group.make(2, 3));
    }

    private static void behindTheLastThatIsAhead() {
        check.sentence("A number that comes into the row is put behind the last one of it that is AHEAD");
        // 3000 has 1 and 8000 ahead of it, but not 4000, which stands between them.
        check.row(Groups.keeping(9, 1, 4000, 8000, 3000), 1, 4000, 8000, 3000);
        check.row(Groups.keeping(9, 1, 3, 2), 1, 2, 3);
    }

    private static void ahead() {
        check.sentence("x is ahead of y if y comes 1 .. 4999 numbers behind x");
        check.row(Groups.keeping(9, 1, 2), 1, 2);
        check.row(Groups.keeping(9, 1, 5000), 1, 5000);
        check.row(Groups.keeping(9, 1, 5001), 5001, 1);
        check.row(Groups.keeping(9, 5001, 1), 5001, 1);
        check.row(Groups.keeping(9, 5000, 1), 1, 5000);
        check.row(Groups.keeping(9, 9999, 1), 9999, 1);
        check.row(Groups.keeping(9, 9999, 4999), 9999, 4999);
        check.row(Groups.keeping(9, 9999, 5000), 5000, 9999);
        check.row(Groups.keeping(9, 4999, 9999), 9999, 4999);
        check.row(Groups.keeping(9, 5000, 9999), 5000, 9999);
    }

    private static void atItsBeginning() {
        check.sentence("at its beginning if none is");
        check.row(Groups.keeping(9, 5, 6, 4), 4, 5, 6);
        check.row(Groups.keeping(9, 1, 2, 9999), 9999, 1, 2);
        check.row(Groups.keeping(9, 7), 7);
        // 5002 comes 5000 behind 2, so not even that one is ahead of it; 5001 comes 4999 behind it.
        check.row(Groups.keeping(9, 1, 2, 5002), 5002, 1, 2);
        check.row(Groups.keeping(9, 1, 2, 5001), 1, 2, 5001);
    }

    private static void moreThanLimit() {
        check.sentence("If there are more than limit then");
        for (boolean empty : new boolean[] {false, true}) {
            Generations group = Groups.keeping(3);
            group.empty(empty);
            Groups.upTo(group, 1, 3);
            check.row(group, 1, 2, 3);
            check.gone(group);
        }
    }

    private static void byRuleEmpty() {
        check.sentence("by rule EMPTY all but the newest one go");
        Generations newest = Groups.keeping(3, 2, 3, 4);
        newest.empty(true);
        newest.catalogue(5);
        check.row(newest, 5);
        Generations between = Groups.keeping(3, 2, 4, 6);
        between.empty(true);
        between.catalogue(3);
        check.row(between, 6);
        check.gone(between, 2, 3, 4);
        Generations oldest = Groups.keeping(3, 2, 3, 4);
        oldest.empty(true);
        oldest.catalogue(1);
        check.row(oldest, 4);
        check.gone(oldest, 1, 2, 3);
        Generations around = Groups.keeping(2, 9998, 9999);
        around.empty(true);
        around.catalogue(1);
        check.row(around, 1);
    }

    private static void elseTheOldest() {
        check.sentence("else the oldest ones till it fits");
        Generations group = Groups.keeping(3, 2, 3, 4);
        group.catalogue(5);
        check.row(group, 3, 4, 5);
        group.catalogue(1);
        check.row(group, 3, 4, 5);
        check.gone(group, 2, 1);
        Generations around = Groups.keeping(2, 9998, 9999, 1);
        check.row(around, 9999, 1);
        check.gone(around, 9998);
    }

    private static void looseOrNotThere() {
        check.sentence("those that go are loose, or, if the group SCRATCHES, not there any more");
        for (boolean empty : new boolean[] {false, true}) {
            Generations keeping = Groups.keeping(2, 1, 2);
            Generations scratching = Groups.scratching(2, 1, 2);
            keeping.empty(empty);
            scratching.empty(empty);
            keeping.catalogue(3);
            scratching.catalogue(3);
            check.due("state(1), kept", 4, keeping.state(1));
            check.due("state(1), scratched", 0, scratching.state(1));
            check.due("state(2), kept", empty ? 4 : 1, keeping.state(2));
            check.due("state(2), scratched", empty ? 0 : 1, scratching.state(2));
        }
    }

    private static void writtenDown() {
        check.sentence("each is written down in the order in which they go (oldest first)");
        Generations group = Groups.scratching(3, 9998, 9999, 1);
        group.empty(true);
        group.catalogue(2);
        check.gone(group, 9998, 9999, 1);
        group.empty(false);
        group.catalogue(4);
        group.catalogue(5);
        group.catalogue(3);
        check.gone(group, 9998, 9999, 1, 2);
        group.catalogue(1);
        check.gone(group, 9998, 9999, 1, 2, 1);
    }
}
