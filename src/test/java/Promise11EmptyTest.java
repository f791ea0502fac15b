/** Promise 11: empty. */
public final class Promise11EmptyTest {
    private static final Check check = new Check("promise 11");

    public static void main(String[] args) {
        whatItWas();
        letsNoneGoItself();
        onFromThenOn();
        offFromThenOn();
        limitOfOne();
        check.finish();
    }

    private static void whatItWas() {
        check.sentence("1 when it was on, else 0");
        Generations group = Groups.keeping(2, 1, 2);
        check.due("empty(false), off", 0, group.empty(false));
        check.due("empty(true), off", 0, group.empty(true));
        check.due("empty(true), on", 1, group.empty(true));
        check.due("empty(false), on", 1, group.empty(false));
        check.due("empty(false), off again", 0, group.empty(false));
    }

    private static void letsNoneGoItself() {
        check.sentence("Rule empty is on, or off (and nothing else is changed)");
        Generations group = Groups.withJobs(1, Groups.keeping(2, 1, 2));
        group.make(1, 1);
        check.changesNothing(group, "empty(true)", 0, () -> group.empty(true));
        check.changesNothing(group, "empty(false)", 1, () -> group.empty(false));
    }

    private static void onFromThenOn() {
        check.sentence("Rule empty is on");
        Generations group = Groups.keeping(2, 1, 2);
        group.empty(true);
        group.catalogue(3);
        check.row(group, 3);
        group.catalogue(4);
        check.row(group, 3, 4);
        group.catalogue(5);
        check.row(group, 5);
        check.gone(group, 1, 2, 3, 4);
    }

    private static void offFromThenOn() {
        check.sentence("Rule empty is off");
        Generations group = Groups.keeping(2, 1, 2);
        group.empty(true);
        group.empty(false);
        group.catalogue(3);
        check.row(group, 2, 3);
        check.gone(group, 1);
    }

    private static void limitOfOne() {
        check.sentence("Rule empty is on (with a limit of 1)");
        Generations group = Groups.scratching(1, 1);
        group.empty(true);
        group.catalogue(2);
        check.row(group, 2);
        group.catalogue(1);
        check.row(group, 2);
        check.gone(group, 1, 1);
    }
}
