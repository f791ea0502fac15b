/** Promise 1: a new object. */
public final class Promise01NewObjectTest {
    private static final Check check = new Check("promise 1");

    public static void main(String[] args) {
        isEmpty();
        limitIsHeld();
        scratchesUnlessZero();
        check.due("NONE", -1, Generations.NONE);
        check.finish();
    }

    private static void isEmpty() {
        Generations group = new Generations(3, 0);
        for (int what = 0; what <= 5; what++) {
            check.due("count(" + what + ") of a new one", 0, group.count(what));
        }
        check.due("list(0) of a new one", -1, group.list(0));
        check.due("dropped(0) of a new one", -1, group.dropped(0));
        check.due("state(1) of a new one", 0, group.state(1));
        check.due("empty(false) of a new one", 0, group.empty(false));
    }

    private static void limitIsHeld() {
        limit(Integer.MIN_VALUE, 1);
        limit(-1, 1);
        limit(0, 1);
        limit(1, 1);
        limit(2, 2);
        limit(254, 254);
        limit(255, 255);
        limit(256, 255);
        limit(Integer.MAX_VALUE, 255);
    }

    private static void limit(int asked, int held) {
        Generations group = new Generations(asked, 1);
        for (int number = 1; number <= held; number++) {
            check.due("limit " + asked + ": catalogue(" + number + ")", number, group.catalogue(number));
        }
        check.due("limit " + asked + ": none went", 0, group.count(5));
        check.due("limit " + asked + ": one more", held, group.catalogue(held + 1));
        check.gone(group, 1);
    }

    private static void scratchesUnlessZero() {
        scratch(0, 4);
        scratch(1, 0);
        scratch(-1, 0);
        scratch(2, 0);
        scratch(Integer.MIN_VALUE, 0);
        scratch(256, 0);
    }

    private static void scratch(int asked, int stateOfGone) {
        Generations group = new Generations(1, asked);
        group.catalogue(1);
        group.catalogue(2);
        check.due("scratch " + asked + ": state(1)", stateOfGone, group.state(1));
    }
}
