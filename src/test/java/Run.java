import java.util.function.Supplier;

/**
 * One object and its calls, each with the answer that is due behind it. It counts them: an object is used for at
 * most 512 calls, so a test that makes more would ask for what the document does not promise.
 */
final class Run {
    static final int MOST_CALLS = 512;

    private final Checks checks;
    private final String name;
    private final int segments;
    private final SegmentLogs logs;
    private int calls = 0;

    Run(Checks checks, String name, int segments) {
        this(checks, name, segments, segments);
    }

    /** For an object that has another number of segments than it was asked for. */
    Run(Checks checks, String name, int asked, int segments) {
        this.checks = checks;
        this.name = name + ", " + asked + " segments";
        this.segments = segments;
        logs = new SegmentLogs(asked);
    }

    static int block(int segment, int k) {
        return 96 + 16 * segment + k;
    }

    int calls() {
        return calls;
    }

    int lastBlock() {
        return block(segments - 1, 15);
    }

    void take(int log, int due) {
        answers("take(" + log + ")", () -> logs.take(log), due);
    }

    void takeThrows(int log, String due) {
        throwsThat("take(" + log + ")", () -> logs.take(log), due);
    }

    void next(int log, int due) {
        answers("next(" + log + ")", () -> logs.next(log), due);
    }

    void nextThrows(int log) {
        throwsThat("next(" + log + ")", () -> logs.next(log), Checks.ARGUMENT);
    }

    void drop(int block) {
        answers("drop(" + block + ")", () -> dropped(block), true);
    }

    void dropThrows(int block, String due) {
        throwsThat("drop(" + block + ")", () -> dropped(block), due);
    }

    void isUsed(int block, boolean due) {
        answers("isUsed(" + block + ")", () -> logs.isUsed(block), due);
    }

    void isUsedThrows(int block) {
        throwsThat("isUsed(" + block + ")", () -> logs.isUsed(block), Checks.ARGUMENT);
    }

    void checkpoint(int due) {
        answers("checkpoint()", logs::checkpoint, due);
    }

    void free(int due) {
        answers("free()", logs::free, due);
    }

    void used(int due) {
        answers("used()", logs::used, due);
    }

    void victim(boolean gently, int due) {
        answers("victim(" + gently + ")", () -> logs.victim(gently), due);
    }

    void victims(int plain, int gentle) {
        victim(false, plain);
        victim(true, gentle);
    }

    void look(int segment, int what, int due) {
        answers("look(" + segment + ", " + what + ")", () -> logs.look(segment, what), due);
    }

    void lookThrows(int segment, int what) {
        throwsThat("look(" + segment + ", " + what + ")", () -> logs.look(segment, what), Checks.ARGUMENT);
    }

    /** All four answers on a segment. */
    void looks(int segment, int now, int then, int age, int taken) {
        look(segment, 0, now);
        look(segment, 1, then);
        look(segment, 2, age);
        look(segment, 3, taken);
    }

    /** So many blocks of one segment, from the first one that is named. */
    void takes(int log, int first, int times) {
        for (int i = 0; i < times; i++) {
            take(log, first + i);
        }
    }

    /** Whole segments, one behind the other. */
    void fills(int log, int... filled) {
        for (int segment : filled) {
            takes(log, block(segment, 0), 16);
        }
    }

    void drops(int first, int times) {
        for (int i = 0; i < times; i++) {
            drop(first + i);
        }
    }

    /** A device of 12 without a free segment: log 0 has filled six and goes on in segment 11. */
    void fillsTwelve() {
        fills(0, 0, 6, 7, 8, 9, 10);
    }

    /** What a refused call leaves: every answer as it was before (a small device: it asks for each of its segments). */
    void unchangedBy(String what, Runnable refused) {
        String before = picture();
        refused.run();
        checks.same(name + ": " + what + " changes nothing", picture(), before);
    }

    private String picture() {
        count(6 + 4 * segments + 4);
        return Checks.picture(logs, segments);
    }

    private boolean dropped(int block) {
        logs.drop(block);
        return true;
    }

    private void answers(String call, Supplier<Object> body, Object due) {
        compare(call, body, String.valueOf(due));
    }

    private void throwsThat(String call, Supplier<Object> body, String due) {
        compare(call, body, "throws." + due);
    }

    private void compare(String call, Supplier<Object> body, String due) {
        count(1);
        checks.same(name + ": call " + calls + ", " + call, outcome(body), due);
    }

    private void count(int more) {
        calls += more;
        if (calls > MOST_CALLS) {
            throw new AssertionError(name + ": the test makes more than " + MOST_CALLS + " calls");
        }
    }

    /** The exception's own class, not one above it: the machine's must not pass for the document's. */
    private static String outcome(Supplier<Object> body) {
        try {
            return String.valueOf(body.get());
        } catch (RuntimeException e) {
            return "throws." + e.getClass().getSimpleName();
        }
    }
}
