import java.util.function.IntUnaryOperator;

/** Compares answers with those that are due, prints the wrong ones, and ends the test. */
final class Check {
    /** A call of the face whose answer, or exception, is looked at. */
    interface Call {
        int answer();
    }

    private final String test;
    private String sentence = "";
    private int sentences;
    private int looked;
    private int lookedBefore;
    private int wrong;

    Check(String test) {
        this.test = test;
    }

    /** What follows looks at this sentence of the document; a wrong answer is told with it. */
    void sentence(String words) {
        endSentence();
        sentence = words;
        sentences++;
        lookedBefore = looked;
    }

    void due(String call, int want, int got) {
        looked++;
        if (got != want) {
            complain(call + " answered " + got + ", due is " + want);
        }
    }

    void refused(String call, Call what) {
        looked++;
        try {
            complain(call + " answered " + what.answer() + ", due is IllegalArgumentException");
        } catch (RuntimeException e) {
            // The class itself, for a subclass of it is not what the document names.
            if (e.getClass() != IllegalArgumentException.class) {
                complain(call + " threw " + e + ", due is IllegalArgumentException");
            }
        }
    }

    /** The call answers so, and nothing that can be seen of the group is another after it. */
    void changesNothing(Generations group, String call, int want, Call what) {
        String before = Picture.of(group);
        due(call, want, what.answer());
        unchanged(group, call, before);
    }

    void refusedChangingNothing(Generations group, String call, Call what) {
        String before = Picture.of(group);
        refused(call, what);
        unchanged(group, call, before);
    }

    void unchanged(Generations group, String by, String before) {
        looked++;
        String after = Picture.of(group);
        if (!before.equals(after)) {
            complain(by + " changed\n  " + before + "\n  to\n  " + after);
        }
    }

    void row(Generations group, int... want) {
        numbers("list", want, group.count(0), group::list);
    }

    void gone(Generations group, int... want) {
        numbers("dropped", want, group.count(5), group::dropped);
    }

    void complain(String what) {
        wrong++;
        String about = sentence.isEmpty() ? "" : " [" + sentence + "]";
        System.out.println(test + about + ": " + what);
    }

    void finish() {
        endSentence();
        System.out.println(test + ": " + sentences + " sentences, " + looked + " looked at, " + wrong + " wrong");
        if (wrong != 0) {
            System.exit(1);
        }
    }

    /** A sentence that nothing was looked at for is not tested. */
    private void endSentence() {
        if (sentences > 0 && looked == lookedBefore) {
            complain("nothing was looked at");
        }
    }

    private void numbers(String call, int[] want, int count, IntUnaryOperator got) {
        due("count of " + call, want.length, count);
        for (int i = 0; i < want.length; i++) {
            due(call + "(" + i + ")", want[i], got.applyAsInt(i));
        }
        due(call + " past its end", Generations.NONE, got.applyAsInt(want.length));
    }
}
