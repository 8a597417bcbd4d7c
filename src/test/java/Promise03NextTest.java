/** Promise 3: the block that a log takes next. */
public final class Promise03NextTest {
    public static void main(String[] args) {
        Checks checks = new Checks("promise 3");
        SegmentLogs logs = new SegmentLogs(20);
        for (int i = 0; i < 120; i++) {
            int log = i * 5 % 6;
            int next = logs.next(log);
            checks.equal("next(" + log + ") again", logs.next(log), next);
            checks.is("isUsed of the next block", logs.isUsed(next), false);
            checks.equal("take(" + log + ") after next", logs.take(log), next);
        }
        opened(checks);
        for (int log : new int[] {6, -1, 20, Integer.MIN_VALUE, Integer.MAX_VALUE}) {
            checks.argument("next(" + log + ")", () -> logs.next(log));
        }
        checks.end();
    }

    private static void opened(Checks checks) {
        SegmentLogs logs = new SegmentLogs(12);
        Checks.takeMany(logs, 5, 15);
        checks.equal("next(5), the last block", logs.next(5), 191);
        logs.take(5);
        checks.equal("next(5), the first block of the opened segment", logs.next(5), 192);
        logs.checkpoint();
        checks.equal("next(5) behind a checkpoint", logs.next(5), 192);
        logs.take(5);
        logs.drop(192);
        checks.equal("next(5) behind a drop", logs.next(5), 193);
    }
}
