/** Promise 8: blocks in use. */
public final class Promise08UsedTest {
    public static void main(String[] args) {
        Checks checks = new Checks("promise 8");
        SegmentLogs logs = new SegmentLogs(40);
        checks.equal("used() of a new object", logs.used(), 0);
        for (int i = 1; i <= 200; i++) {
            logs.take(i % 6);
            checks.equal("used() after " + i + " takings", logs.used(), i);
        }
        logs.drop(96);
        checks.equal("used() behind a drop", logs.used(), 199);
        checks.state("drop(96) again", () -> logs.drop(96));
        checks.argument("take(6)", () -> logs.take(6));
        checks.equal("used() behind refused calls", logs.used(), 199);
        logs.checkpoint();
        checks.equal("used() behind a checkpoint", logs.used(), 199);
        Checks.dropRange(logs, 97, 15);
        checks.equal("used(): now, not at the checkpoint", logs.used(), 184);
        checks.end();
    }
}
