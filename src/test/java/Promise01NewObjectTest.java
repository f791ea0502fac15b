/** Promise 1: a new object. */
public final class Promise01NewObjectTest {
    private static final Check check = new Check("promise 1");

    public static void main(String[] args) {
        emptyGroup();
        limits();
        heldLimits();
        scratchesUnlessZero();
        ruleEmptyIsOff();
        none();
        check.finish();
    }

    private static void emptyGroup() {
        check.sentence("An empty group");
        Generations group = new Generations(3, 0);
        for (int what = 0; what <= 5; what++) {
            check.due("count(" + what + ")", 0, group.count(what));
        }
        check.due("list(0)", -1, group.list(0));
        check.due("dropped(0)", -1, group.dropped(0));
        for (int number : new int[] {1, 2, 5000, 9999}) {
            check.due("state(" + number + ")", 0, group.state(number));
            check.due("version(" + number + ")", -1, group.version(number));
            check.due("reclaim(" + number + ")", 0, group.reclaim(number));
        }
        check.refused("relative(1, 0)", () -> group.relative(1, 0));
    }

    private static void limits() {
        check.sentence("with a limit of 1 .. 255");
        limit(1, 1);
        limit(2, 2);
        limit(128, 128);
        limit(254, 254);
        limit(255, 255);
    }

    private static void heldLimits() {
        check.sentence("(numbers outside are held to these)");
        limit(0, 1);
        limit(-1, 1);
        limit(-255, 1);
        limit(Integer.MIN_VALUE, 1);
        limit(256, 255);
        limit(257, 255);
        limit(512, 255);
        limit(Integer.MAX_VALUE, 255);
    }

    private static void limit(int asked, int held) {
        Generations group = new Generations(asked, 1);
        for (int number = 1; number <= held; number++) {
            check.due("limit " + asked + ": catalogue(" + number + ")", number, group.catalogue(number));
        }
        check.due("limit " + asked + ": none went", 0, group.count(5));
        check.due("limit " + asked + ": one more", held, group.catalogue(held + 1));
        check.gone(group, 1);
    }

    private static void scratchesUnlessZero() {
        check.sentence("that scratches unless scratch is 0");
        scratch(0, 4);
        scratch(1, 0);
        scratch(2, 0);
        scratch(-1, 0);
        scratch(256, 0);
        scratch(65536, 0);
        scratch(Integer.MIN_VALUE, 0);
        scratch(Integer.MAX_VALUE, 0);
    }

    private static void scratch(int asked, int stateOfGone) {
        Generations group = new Generations(1, asked);
        group.catalogue(1);
        group.catalogue(2);
        check.due("scratch " + asked + ": state(1)", stateOfGone, group.state(1));
    }

    private static void ruleEmptyIsOff() {
        check.sentence("rule empty off");
        check.due("empty(false)", 0, new Generations(3, 0).empty(false));
        check.due("empty(true)", 0, new Generations(3, 1).empty(true));
        check.row(Groups.keeping(3, 1, 2, 3, 4), 2, 3, 4);
    }

    private static void none() {
        check.sentence("public static final int NONE = -1");
        check.due("NONE", -1, Generations.NONE);
    }
}
