/** Promise 4: a block is in use no more. */
public final class Promise04DropTest {
    public static void main(String[] args) {
        Checks checks = new Checks("promise 4");
        drops(checks, 12);
        drops(checks, 25);
        refuses(checks);
        checks.end();
    }

    private static void drops(Checks checks, int s) {
        SegmentLogs logs = new SegmentLogs(s);
        Checks.takeMany(logs, 0, 17);
        logs.checkpoint();
        logs.drop(96);
        logs.drop(111);
        logs.drop(192);
        checks.equal("look(0, 0)", logs.look(0, 0), 0x7ffe);
        checks.equal("look(0, 1): the checkpoint keeps it", logs.look(0, 1), 0xffff);
        checks.equal("look(0, 2): a drop does not change the age", logs.look(0, 2), 16);
        checks.equal("look(6, 0)", logs.look(6, 0), 0);
        checks.equal("used()", logs.used(), 14);
        checks.is("isUsed(96)", logs.isUsed(96), false);
        checks.is("isUsed(97)", logs.isUsed(97), true);
        String before = Checks.picture(logs, s);
        checks.state("drop(96) again", () -> logs.drop(96));
        checks.state("drop of a next block", () -> logs.drop(193));
        checks.state("drop of the last block of all", () -> logs.drop(95 + 16 * s));
        checks.argument("drop(95)", () -> logs.drop(95));
        checks.argument("drop behind the last block", () -> logs.drop(96 + 16 * s));
        checks.same("after drops that were refused", Checks.picture(logs, s), before);
    }

    private static void refuses(Checks checks) {
        SegmentLogs logs = new SegmentLogs(12);
        checks.state("drop(96) of a new object", () -> logs.drop(96));
        for (int block : new int[] {0, -1, 5, 80, -96, Integer.MIN_VALUE, Integer.MAX_VALUE, 288, 2144}) {
            checks.argument("drop(" + block + ")", () -> logs.drop(block));
        }
        SegmentLogs large = new SegmentLogs(128);
        checks.state("drop of the last block of 128 segments", () -> large.drop(2143));
        checks.argument("drop behind the last block of 128 segments", () -> large.drop(2144));
    }
}
