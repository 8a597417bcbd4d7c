/** Promise 1: so many segments (12 .. 128; 12 for another number). */
public final class Promise01NewObjectTest {
    public static void main(String[] args) {
        Checks checks = new Checks("promise 1");
        int[][] asked = {
            {12, 12}, {13, 13}, {64, 64}, {127, 127}, {128, 128},
            {11, 12}, {129, 12}, {0, 12}, {-1, 12}, {-12, 12}, {6, 12},
            {Integer.MIN_VALUE, 12}, {Integer.MAX_VALUE, 12}, {1 << 28, 12},
        };
        for (int[] pair : asked) {
            hasSegments(checks, pair[0], pair[1]);
        }
        isNew(checks, 12);
        isNew(checks, 100);
        checks.end();
    }

    private static void hasSegments(Checks checks, int s, int due) {
        SegmentLogs logs = new SegmentLogs(s);
        String made = "new SegmentLogs(" + s + "): ";
        checks.equal(made + "free()", logs.free(), due - 6);
        checks.throwing(made + "look of the last", () -> logs.look(due - 1, 0), Checks.FINE);
        checks.argument(made + "look behind the last", () -> logs.look(due, 0));
        checks.throwing(made + "isUsed of the last", () -> logs.isUsed(95 + 16 * due), Checks.FINE);
        checks.argument(made + "isUsed behind the last", () -> logs.isUsed(96 + 16 * due));
    }

    private static void isNew(Checks checks, int s) {
        SegmentLogs logs = new SegmentLogs(s);
        for (int segment = 0; segment < s; segment++) {
            for (int what = 0; what < 3; what++) {
                checks.equal("new: look(" + segment + ", " + what + ")", logs.look(segment, what), 0);
            }
            checks.equal("new: look(" + segment + ", 3)", logs.look(segment, 3), segment < 6 ? 1 : 0);
        }
        for (int log = 0; log < 6; log++) {
            checks.equal("new: next(" + log + ")", logs.next(log), 96 + 16 * log);
        }
        checks.equal("new: used()", logs.used(), 0);
        checks.equal("new: victim(false)", logs.victim(false), -1);
        checks.equal("new: victim(true)", logs.victim(true), -1);
    }
}
