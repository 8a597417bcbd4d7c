/** Promise 2: the next block of a log, and a free segment opened behind the last one. */
public final class Promise02TakeTest {
    private static final Checks CHECKS = new Checks("promise 2");

    public static void main(String[] args) {
        takesInARow();
        opensBehindTheLastBlock();
        refusesWithoutAFreeSegment();
        opensNoneThatWasUsedAtTheCheckpoint();
        refusesWrongLogs();
        CHECKS.end();
    }

    private static void takesInARow() {
        SegmentLogs logs = new SegmentLogs(12);
        for (int k = 0; k < 15; k++) {
            for (int log = 0; log < 6; log++) {
                CHECKS.equal("take(" + log + ")", logs.take(log), 96 + 16 * log + k);
            }
        }
        CHECKS.equal("used()", logs.used(), 90);
    }

    private static void opensBehindTheLastBlock() {
        SegmentLogs logs = new SegmentLogs(13);
        Checks.takeMany(logs, 3, 15);
        CHECKS.equal("free() before the last block", logs.free(), 7);
        CHECKS.equal("take(3), the last block", logs.take(3), 159);
        CHECKS.equal("free() behind the last block", logs.free(), 6);
        CHECKS.equal("look(6, 3), opened", logs.look(6, 3), 1);
        CHECKS.equal("look(6, 2), no block taken", logs.look(6, 2), 0);
        CHECKS.equal("take(3), the first of segment 6", logs.take(3), 192);
        Checks.takeMany(logs, 0, 16);
        CHECKS.equal("take(0), the first of segment 7", logs.take(0), 208);
    }

    private static void refusesWithoutAFreeSegment() {
        SegmentLogs logs = new SegmentLogs(12);
        Checks.takeMany(logs, 2, 6 * 16);
        CHECKS.equal("free() with all taken", logs.free(), 0);
        Checks.takeMany(logs, 2, 15);
        String before = Checks.picture(logs, 12);
        for (int i = 0; i < 3; i++) {
            CHECKS.state("take(2) with none free", () -> logs.take(2));
        }
        CHECKS.same("after a take that was refused", Checks.picture(logs, 12), before);
        CHECKS.is("isUsed(287)", logs.isUsed(287), false);
        CHECKS.equal("next(2)", logs.next(2), 287);

        CHECKS.equal("take(4), not at its last block", logs.take(4), 160);
        Checks.dropRange(logs, 128, 16);
        CHECKS.state("take(2) with an empty segment that is still taken", () -> logs.take(2));
        CHECKS.equal("checkpoint()", logs.checkpoint(), 1);
        CHECKS.equal("take(2) behind the checkpoint", logs.take(2), 287);
        CHECKS.equal("look(11, 2): a refused take has no number", logs.look(11, 2), 113);
        CHECKS.equal("take(2) in the segment written again", logs.take(2), 128);
    }

    private static void opensNoneThatWasUsedAtTheCheckpoint() {
        SegmentLogs logs = new SegmentLogs(12);
        Checks.takeMany(logs, 0, 16);
        logs.checkpoint();
        Checks.dropRange(logs, 96, 16);
        Checks.takeMany(logs, 0, 16);
        CHECKS.equal("next(0): segment 0 was in use at the checkpoint", logs.next(0), 208);
        logs.checkpoint();
        Checks.takeMany(logs, 0, 16);
        CHECKS.equal("next(0): segment 0 is forgotten", logs.next(0), 96);
    }

    private static void refusesWrongLogs() {
        SegmentLogs logs = new SegmentLogs(12);
        String before = Checks.picture(logs, 12);
        for (int log : new int[] {6, -1, 7, 96, Integer.MIN_VALUE, Integer.MAX_VALUE}) {
            CHECKS.argument("take(" + log + ")", () -> logs.take(log));
        }
        CHECKS.same("after wrong logs", Checks.picture(logs, 12), before);
    }
}
