/** Compares answers with those that are due, prints every wrong one, and ends the test with the right exit code. */
final class Expect {
    /** A call on the object under test; calls that answer nothing answer 0 here. */
    interface Call {
        long make();
    }

    private final String test;
    private int wrong = 0;
    private int made = 0;

    Expect(String test) {
        this.test = test;
    }

    void answers(String what, long due, Call call) {
        judge(what, Long.toString(due), outcome(call));
    }

    void works(String what, Runnable call) {
        answers(what, 0, () -> {
            call.run();
            return 0;
        });
    }

    void refuses(String what, Class<? extends RuntimeException> due, Call call) {
        judge(what, due.getName(), outcome(call));
    }

    void refuses(String what, Class<? extends RuntimeException> due, Runnable call) {
        refuses(what, due, () -> {
            call.run();
            return 0;
        });
    }

    void judge(String what, String due, String got) {
        made++;
        if (!got.equals(due)) {
            wrong++;
            System.out.println(test + ": " + what + " answered " + got + ", due is " + due);
        }
    }

    static String outcome(Call call) {
        try {
            return Long.toString(call.make());
        } catch (RuntimeException e) {
            return e.getClass().getName();
        }
    }

    boolean failed() {
        return wrong > 0;
    }

    void end() {
        System.out.println(test + ": " + made + " answers, " + wrong + " wrong");
        if (failed()) {
            System.exit(1);
        }
    }
}
