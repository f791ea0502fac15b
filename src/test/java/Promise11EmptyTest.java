/** Promise 11: empty. */
public final class Promise11EmptyTest {
    private static final Check check = new Check("promise 11");

    public static void main(String[] args) {
        Generations group = Groups.keeping(2, 1, 2);
        check.due("empty(true)", 0, group.empty(true));
        check.due("empty(true) again", 1, group.empty(true));
        check.row(group, 1, 2);
        group.catalogue(3);
        check.row(group, 3);
        group.catalogue(4);
        check.row(group, 3, 4);
        check.due("empty(false)", 1, group.empty(false));
        check.due("empty(false) again", 0, group.empty(false));
        group.catalogue(5);
        check.row(group, 4, 5);
        check.gone(group, 1, 2, 3);
        limitOfOne();
        check.finish();
    }

    private static void limitOfOne() {
        Generations group = Groups.scratching(1, 1);
        group.empty(true);
        group.catalogue(2);
        check.row(group, 2);
        check.gone(group, 1);
    }
}
