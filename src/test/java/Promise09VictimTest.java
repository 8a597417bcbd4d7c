/** Promise 9: the victim; -1 for none. */
public final class Promise09VictimTest {
    private static final Checks CHECKS = new Checks("promise 9");

    public static void main(String[] args) {
        isNeverTaken();
        hasOneToFifteenBlocksInUse();
        isTheOneWithTheLeastInUse();
        isGentlyTheOldOne();
        isGentlyRoundedDown();
        isGentlyOverWhatIsInUse();
        hasAWorthOfZero();
        CHECKS.end();
    }

    /** A new device of 40 with the segments of logs 0, 1, 2 .. full, one after the other. */
    private static SegmentLogs withFull(int segments) {
        SegmentLogs logs = new SegmentLogs(40);
        for (int log = 0; log < segments; log++) {
            Checks.takeMany(logs, log, 16);
        }
        return logs;
    }

    private static void due(String when, SegmentLogs logs, int plain, int gentle) {
        CHECKS.equal(when + ": victim(false)", logs.victim(false), plain);
        CHECKS.equal(when + ": victim(true)", logs.victim(true), gentle);
    }

    private static void isNeverTaken() {
        SegmentLogs logs = withFull(1);
        logs.drop(96);
        Checks.takeMany(logs, 3, 4);
        due("taken since the checkpoint", logs, -1, -1);
        logs.checkpoint();
        due("left before the checkpoint; segment 3 is open", logs, 0, 0);
    }

    private static void hasOneToFifteenBlocksInUse() {
        SegmentLogs logs = withFull(1);
        logs.checkpoint();
        due("16 in use", logs, -1, -1);
        logs.drop(100);
        due("15 in use, 16 at the checkpoint", logs, 0, 0);
        for (int block = 96; block < 111; block++) {
            if (block != 100) {
                logs.drop(block);
            }
        }
        due("1 in use", logs, 0, 0);
        logs.drop(111);
        due("none in use, 16 at the checkpoint", logs, -1, -1);
    }

    private static void isTheOneWithTheLeastInUse() {
        SegmentLogs logs = withFull(3);
        logs.checkpoint();
        logs.drop(96);
        Checks.dropRange(logs, 112, 3);
        Checks.dropRange(logs, 128, 3);
        CHECKS.equal("13 in use twice: the lowest", logs.victim(false), 1);
        logs.drop(131);
        CHECKS.equal("12 in use", logs.victim(false), 2);
    }

    private static void isGentlyTheOldOne() {
        SegmentLogs logs = withFull(2);
        logs.checkpoint();
        // Ages 16 and 32 of 32: (4 * 17) / 28 = 2 and (8 * 1) / 24 = 0.
        Checks.dropRange(logs, 96, 4);
        Checks.dropRange(logs, 112, 8);
        due("an old one and an emptier one", logs, 1, 0);
        // 100 takings more: (4 * 117) / 28 = 16 and (8 * 101) / 24 = 33.
        for (int i = 0; i < 100; i++) {
            logs.take(5);
        }
        due("much later", logs, 1, 1);
    }

    private static void isGentlyRoundedDown() {
        SegmentLogs logs = withFull(2);
        logs.checkpoint();
        // Ages 16 and 32 of 32: (2 * 17) / 30 = 1.13 and (u = 1) (15 * 1) / 17 = 0.88; then with 33 takings
        // (2 * 18) / 30 = 1.2 and (15 * 2) / 17 = 1.76, the same when rounded down; then 1.26 and 2.64.
        Checks.dropRange(logs, 96, 2);
        Checks.dropRange(logs, 112, 15);
        due("1 against 0", logs, 1, 0);
        logs.take(5);
        due("1 against 1", logs, 1, 0);
        logs.take(5);
        due("1 against 2", logs, 1, 1);
    }

    private static void isGentlyOverWhatIsInUse() {
        SegmentLogs logs = withFull(2);
        logs.checkpoint();
        // Ages 16 and 32 of 36: (4 * 21) / 28 = 3 and (15 * 5) / 17 = 4, though 84 is more than 75.
        Checks.takeMany(logs, 5, 4);
        Checks.dropRange(logs, 96, 4);
        Checks.dropRange(logs, 112, 15);
        due("84 / 28 against 75 / 17", logs, 1, 1);
    }

    private static void hasAWorthOfZero() {
        SegmentLogs logs = withFull(1);
        logs.checkpoint();
        logs.drop(103);
        due("(1 * 1) / 31", logs, 0, 0);
    }
}
