/** Promise 10: of a segment the blocks in use, those at the checkpoint, its age, and whether it is taken. */
public final class Promise10LookTest {
    private static final Checks CHECKS = new Checks("promise 10");

    public static void main(String[] args) {
        looks();
        keepsTheAgeOfASegmentOpenedAgain();
        refuses(12);
        refuses(128);
        CHECKS.end();
    }

    private static void due(SegmentLogs logs, int segment, int now, int then, int age, int taken) {
        int[] due = {now, then, age, taken};
        for (int what = 0; what < 4; what++) {
            CHECKS.equal("look(" + segment + ", " + what + ")", logs.look(segment, what), due[what]);
        }
    }

    private static void looks() {
        SegmentLogs logs = new SegmentLogs(12);
        logs.take(0);
        due(logs, 0, 1, 0, 1, 1);
        logs.take(1);
        logs.take(0);
        due(logs, 0, 3, 0, 3, 1);
        due(logs, 1, 1, 0, 2, 1);
        Checks.takeMany(logs, 0, 14);
        due(logs, 0, 0xffff, 0, 17, 1);
        due(logs, 6, 0, 0, 0, 1);
        due(logs, 7, 0, 0, 0, 0);
        logs.checkpoint();
        due(logs, 0, 0xffff, 0xffff, 17, 0);
        due(logs, 6, 0, 0, 0, 1);
        logs.drop(111);
        due(logs, 0, 0x7fff, 0xffff, 17, 0);
    }

    private static void keepsTheAgeOfASegmentOpenedAgain() {
        SegmentLogs logs = new SegmentLogs(12);
        Checks.takeMany(logs, 0, 16);
        Checks.dropRange(logs, 96, 16);
        logs.checkpoint();
        due(logs, 0, 0, 0, 16, 0);
        Checks.takeMany(logs, 1, 16);
        due(logs, 0, 0, 0, 16, 1);
        logs.take(1);
        due(logs, 0, 1, 0, 33, 1);
    }

    private static void refuses(int s) {
        SegmentLogs logs = new SegmentLogs(s);
        for (int segment : new int[] {-1, s, s + 1, 1 << 28, Integer.MIN_VALUE, Integer.MAX_VALUE}) {
            for (int what = 0; what < 4; what++) {
                int asked = what;
                CHECKS.argument("look(" + segment + ", " + what + ")", () -> logs.look(segment, asked));
            }
        }
        for (int what : new int[] {-1, 4, 5, Integer.MIN_VALUE, Integer.MAX_VALUE}) {
            CHECKS.argument("look(0, " + what + ")", () -> logs.look(0, what));
            CHECKS.argument("look(" + (s - 1) + ", " + what + ")", () -> logs.look(s - 1, what));
        }
    }
}
