/** Groups that the tests begin with. */
final class Groups {
    private Groups() {
    }

    static Generations keeping(int limit, int... numbers) {
        return filled(new Generations(limit, 0), numbers);
    }

    static Generations scratching(int limit, int... numbers) {
        return filled(new Generations(limit, 1), numbers);
    }

    private static Generations filled(Generations group, int... numbers) {
        for (int number : numbers) {
            group.catalogue(number);
        }
        return group;
    }
}
