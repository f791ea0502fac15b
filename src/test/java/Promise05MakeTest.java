/** Promise 5: make. */
public final class Promise05MakeTest {
    private static final Check check = new Check("promise 5");

    public static void main(String[] args) {
        makesDeferred();
        numbersGoAround();
        madeBeforeIsNotMadeAgain();
        takenNumbers();
        ownLooseOneIsMadeAnew();
        oneJobAtATimeMakes();
        madeBeforeEvenIfAnotherMakes();
        refusals();
        check.finish();
    }

    private static void makesDeferred() {
        Generations group = Groups.keeping(3, 5);
        group.job();
        check.due("make(1, 3)", 8, group.make(1, 3));
        check.due("make(1, 1)", 6, group.make(1, 1));
        check.due("make(1, 99)", 104, group.make(1, 99));
        check.due("state(8)", 2, group.state(8));
        check.due("version(8)", 0, group.version(8));
        check.due("count(1)", 3, group.count(1));
        check.row(group, 5);
    }

    private static void numbersGoAround() {
        Generations group = Groups.keeping(3, 9950);
        group.job();
        check.due("make(1, 49)", 9999, group.make(1, 49));
        check.due("make(1, 50)", 1, group.make(1, 50));
        check.due("make(1, 99)", 50, group.make(1, 99));
        Generations last = Groups.keeping(3, 9999);
        last.job();
        check.due("make(1, 1) behind 9999", 1, last.make(1, 1));
        Generations nothing = Groups.keeping(3);
        nothing.job();
        check.due("make(1, 1) of an empty row", 1, nothing.make(1, 1));
        check.due("make(1, 99) of an empty row", 99, nothing.make(1, 99));
    }

    private static void madeBeforeIsNotMadeAgain() {
        Generations group = Groups.keeping(3);
        group.job();
        group.make(1, 1);
        check.due("make(1, 1), waiting", 1, group.make(1, 1));
        check.due("count(1)", 1, group.count(1));
        group.end(1, 1, true);
        check.due("make(1, 1), failed", 1, group.make(1, 1));
        check.due("state(1)", 3, group.state(1));
        check.due("count(4)", 0, group.count(4));
        group.reclaim(1);
        check.due("make(1, 1), catalogued", 1, group.make(1, 1));
        check.due("version(1)", 1, group.version(1));
        check.due("state(1)", 1, group.state(1));
    }

    private static void takenNumbers() {
        Generations group = Groups.keeping(2);
        group.job();
        group.job();
        group.catalogue(1);
        check.due("make(1, 1), in the row", -1, group.make(1, 1));
        group.catalogue(2);
        group.catalogue(3);
        check.due("state(1)", 4, group.state(1));
        check.due("make(1, 1), loose from elsewhere", -1, group.make(1, 1));
        group.make(1, 9);
        group.end(1, 9, true);
        check.due("make(2, 9), deferred of another", -1, group.make(2, 9));
        check.due("count(4)", 0, group.count(4));
        group.reclaim(9);
        check.due("make(2, 9), another's in the row", -1, group.make(2, 9));
        group.catalogue(10);
        group.catalogue(11);
        check.due("state(9)", 4, group.state(9));
        check.due("make(2, 9), loose of another", -1, group.make(2, 9));
        check.due("state(9) stays", 4, group.state(9));
    }

    private static void ownLooseOneIsMadeAnew() {
        Generations group = Groups.keeping(1);
        group.job();
        group.make(1, 1);
        group.end(1, 1, true);
        group.reclaim(1);
        group.catalogue(2);
        check.due("state(1)", 4, group.state(1));
        check.due("version(1)", 1, group.version(1));
        check.due("make(1, 1), its own loose one", 1, group.make(1, 1));
        check.due("state(1), made anew", 2, group.state(1));
        check.due("version(1), made anew", 0, group.version(1));
        check.due("count(2)", 0, group.count(2));
    }

    private static void oneJobAtATimeMakes() {
        Generations group = Groups.scratching(1);
        group.job();
        group.job();
        group.make(1, 1);
        group.make(1, 2);
        check.due("make(2, 3) while 1 makes", -1, group.make(2, 3));
        group.end(1, 1, false);
        check.due("make(2, 3) while 2 of 1 waits", -1, group.make(2, 3));
        check.due("state(3)", 0, group.state(3));
        group.end(1, 2, true);
        check.due("make(2, 3) when none waits", 3, group.make(2, 3));
        check.due("make(1, 4) while 2 makes", -1, group.make(1, 4));
        check.due("count(4)", 2, group.count(4));
    }

    private static void madeBeforeEvenIfAnotherMakes() {
        Generations group = Groups.keeping(3);
        group.job();
        group.job();
        group.make(1, 1);
        group.end(1, 1, true);
        group.make(2, 2);
        check.due("make(1, 1), deferred, while 2 makes", 1, group.make(1, 1));
        check.due("state(1)", 3, group.state(1));
    }

    private static void refusals() {
        Generations group = Groups.keeping(3);
        check.refused("make(1, 1) before a job", () -> group.make(1, 1));
        group.job();
        for (int job : new int[] {0, -1, 2, Integer.MIN_VALUE, Integer.MAX_VALUE}) {
            check.refused("make(" + job + ", 1)", () -> group.make(job, 1));
        }
        for (int n : new int[] {0, -1, 100, Integer.MIN_VALUE, Integer.MAX_VALUE}) {
            check.refused("make(1, " + n + ")", () -> group.make(1, n));
        }
        check.due("count(1)", 0, group.count(1));
    }
}
