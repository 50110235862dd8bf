/** Compares answers with those that are due, and ends the test program by its exit code. */
final class Checks {
    /** A call of the face whose answer or exception is looked at. */
    interface Call {
        int answer();
    }

    private final String test;
    private String sentence = "";
    private boolean sentenceChecked = true;
    private int right;
    private int wrong;

    Checks(String test) {
        this.test = test;
    }

    /** The checks that follow are those of this sentence of the document; it has to have one. */
    void sentence(String words) {
        requireSentenceChecked();
        sentence = "\"" + words + "\": ";
        sentenceChecked = false;
    }

    void due(String what, int due, int got) {
        if (due == got) {
            countRight();
        } else {
            report(what + " answered " + got + ", due is " + due);
        }
    }

    void holds(String what, boolean fact) {
        if (fact) {
            countRight();
        } else {
            report(what + " does not hold");
        }
    }

    /** The exception has to be of this very class: one of a class below it comes from the machine. */
    void dueThrow(String what, Class<? extends RuntimeException> due, Call call) {
        try {
            report(what + " answered " + call.answer() + ", due is " + due.getSimpleName());
        } catch (RuntimeException thrown) {
            holds(what + " throws " + due.getSimpleName() + ", not " + thrown, thrown.getClass() == due);
        }
    }

    void indexThrow(String what, Call call) {
        dueThrow(what, IndexOutOfBoundsException.class, call);
    }

    void argumentThrow(String what, Call call) {
        dueThrow(what, IllegalArgumentException.class, call);
    }

    void stateThrow(String what, Call call) {
        dueThrow(what, IllegalStateException.class, call);
    }

    void end() {
        requireSentenceChecked();
        System.out.println(test + ": " + right + " checks right, " + wrong + " wrong");
        if (wrong != 0 || right == 0) {
            System.exit(1);
        }
    }

    private void requireSentenceChecked() {
        if (!sentenceChecked) {
            report("no check");
        }
    }

    private void countRight() {
        right++;
        sentenceChecked = true;
    }

    private void report(String line) {
        wrong++;
        sentenceChecked = true;
        if (wrong <= 40) {
            System.out.println(test + ": " + sentence + line);
        }
    }
}
