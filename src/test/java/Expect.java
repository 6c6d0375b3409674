/**
 * Compares answers with those that are due, prints every wrong one with the sentence of the document
 * that it breaks, and ends the test with the right exit code.
 */
final class Expect {
    static final Class<IllegalStateException> STATE = IllegalStateException.class;
    static final Class<IndexOutOfBoundsException> INDEX = IndexOutOfBoundsException.class;
    static final Class<ArithmeticException> POWER = ArithmeticException.class;
    static final Class<IllegalArgumentException> ARGUMENT = IllegalArgumentException.class;

    /** A call on the object under test; calls that answer nothing answer 0 here. */
    interface Call {
        long make();
    }

    /** The test of one sentence. */
    interface Test {
        void run(Expect expect);
    }

    private final String test;
    private String sentence = "";
    private int wrong = 0;
    private int made = 0;

    Expect(String test) {
        this.test = test;
    }

    /** Runs the test of a sentence; one that compares nothing, or in which a call fails by surprise, is wrong. */
    void holds(String words, Test own) {
        sentence = " \"" + words + "\":";
        int before = made;
        try {
            own.run(this);
        } catch (RuntimeException e) {
            tellWrong("a call on the way threw " + e);
        }
        if (made == before) {
            tellWrong("nothing was compared");
        }
        sentence = "";
    }

    void answers(String what, long due, Call call) {
        judge(what, Long.toString(due), outcome(call));
    }

    void works(String what, Runnable call) {
        answers(what, 0, () -> {
            call.run();
            return 0;
        });
    }

    void refuses(String what, Class<? extends RuntimeException> due, Call call) {
        judge(what, due.getName(), outcome(call));
    }

    void refuses(String what, Class<? extends RuntimeException> due, Runnable call) {
        refuses(what, due, () -> {
            call.run();
            return 0;
        });
    }

    void judge(String what, String due, String got) {
        made++;
        if (!got.equals(due)) {
            tellWrong(what + " answered " + got + ", due is " + due);
        }
    }

    private void tellWrong(String what) {
        wrong++;
        System.out.println(test + ":" + sentence + " " + what);
    }

    static String outcome(Call call) {
        try {
            return Long.toString(call.make());
        } catch (RuntimeException e) {
            return e.getClass().getName();
        }
    }

    boolean failed() {
        return wrong > 0;
    }

    void end() {
        System.out.println(test + ": " + made + " answers, " + wrong + " wrong");
        if (failed()) {
            System.exit(1);
        }
    }
}
