/** Counts and prints the answers that are not the ones due; one object for each test's main method. */
final class Checks {
    static final String FINE = "nothing";
    static final String ARGUMENT = "IllegalArgumentException";
    static final String STATE = "IllegalStateException";

    private final String test;
    private int wrong = 0;

    Checks(String test) {
        this.test = test;
    }

    void equal(String call, long got, long due) {
        if (got != due) {
            wrong++;
            System.out.println(test + ": " + call + " answered " + got + ", due is " + due);
        }
    }

    void is(String call, boolean got, boolean due) {
        equal(call, got ? 1 : 0, due ? 1 : 0);
    }

    void throwing(String call, Runnable body, String due) {
        String got = thrownBy(body);
        if (!got.equals(due)) {
            wrong++;
            System.out.println(test + ": " + call + " throws " + got + ", due is " + due);
        }
    }

    void argument(String call, Runnable body) {
        throwing(call, body, ARGUMENT);
    }

    void state(String call, Runnable body) {
        throwing(call, body, STATE);
    }

    /** The class itself, not one below it: the machine's exceptions must not pass for the document's. */
    static String thrownBy(Runnable body) {
        try {
            body.run();
            return FINE;
        } catch (RuntimeException e) {
            return e.getClass().getSimpleName();
        }
    }

    static void takeMany(SegmentLogs logs, int log, int times) {
        for (int i = 0; i < times; i++) {
            logs.take(log);
        }
    }

    static void dropRange(SegmentLogs logs, int first, int count) {
        for (int i = 0; i < count; i++) {
            logs.drop(first + i);
        }
    }

    /** All that can be asked of an object, to see that a call changed nothing. */
    static String picture(SegmentLogs logs, int segments) {
        StringBuilder text = new StringBuilder();
        for (int log = 0; log < 6; log++) {
            text.append(logs.next(log)).append(' ');
        }
        for (int segment = 0; segment < segments; segment++) {
            for (int what = 0; what < 4; what++) {
                text.append(logs.look(segment, what)).append(',');
            }
        }
        return text.append(logs.free()).append(' ').append(logs.used()).append(' ')
            .append(logs.victim(false)).append(' ').append(logs.victim(true)).toString();
    }

    void same(String what, String got, String due) {
        if (!got.equals(due)) {
            wrong++;
            System.out.println(test + ": " + what + "\n  is  " + got + "\n  due " + due);
        }
    }

    void end() {
        if (wrong > 0) {
            System.exit(1);
        }
    }
}
