/** Compares answers with those that are due, prints the wrong ones, and ends the test. */
final class Check {
    /** A call of the face whose answer, or exception, is looked at. */
    interface Call {
        int answer();
    }

    private final String test;
    private int looked;
    private int wrong;

    Check(String test) {
        this.test = test;
    }

    void due(String call, int want, int got) {
        looked++;
        if (got != want) {
            complain(call + " answered " + got + ", due is " + want);
        }
    }

    void refused(String call, Call what) {
        looked++;
        try {
            complain(call + " answered " + what.answer() + ", due is IllegalArgumentException");
        } catch (RuntimeException e) {
            // The class itself, for a subclass of it is not what the document names.
            if (e.getClass() != IllegalArgumentException.class) {
                complain(call + " threw " + e + ", due is IllegalArgumentException");
            }
        }
    }

    void row(Generations group, int... want) {
        numbers("list", want, group.count(0), group::list);
    }

    void gone(Generations group, int... want) {
        numbers("dropped", want, group.count(5), group::dropped);
    }

    void complain(String what) {
        wrong++;
        System.out.println(test + ": " + what);
    }

    void finish() {
        System.out.println(test + ": " + looked + " looked at, " + wrong + " wrong");
        if (wrong != 0) {
            System.exit(1);
        }
    }

    private interface Numbers {
        int at(int i);
    }

    private void numbers(String call, int[] want, int count, Numbers got) {
        due("count of " + call, want.length, count);
        for (int i = 0; i < want.length; i++) {
            due(call + "(" + i + ")", want[i], got.at(i));
        }
        due(call + " past its end", Generations.NONE, got.at(want.length));
    }
}
