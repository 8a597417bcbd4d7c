/** Promise 5: whether a block is in use. */
public final class Promise05IsUsedTest {
    public static void main(String[] args) {
        Checks checks = new Checks("promise 5");
        SegmentLogs logs = new SegmentLogs(14);
        Checks.takeMany(logs, 1, 20);
        logs.drop(117);
        for (int block = 96; block < 96 + 16 * 14; block++) {
            boolean due = block >= 112 && block < 128 && block != 117 || block >= 192 && block < 196;
            checks.is("isUsed(" + block + ")", logs.isUsed(block), due);
        }
        logs.checkpoint();
        logs.drop(127);
        checks.is("isUsed(127): now, not at the checkpoint", logs.isUsed(127), false);
        for (int block : new int[] {95, 320, 0, -1, 16, Integer.MIN_VALUE, Integer.MAX_VALUE}) {
            checks.argument("isUsed(" + block + ")", () -> logs.isUsed(block));
        }
        checks.end();
    }
}
