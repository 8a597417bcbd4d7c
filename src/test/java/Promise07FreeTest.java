/** Promise 7: free segments: none in use now or at the checkpoint, and not taken. */
public final class Promise07FreeTest {
    public static void main(String[] args) {
        Checks checks = new Checks("promise 7");
        SegmentLogs logs = new SegmentLogs(12);
        checks.equal("free() of a new object", logs.free(), 6);
        Checks.takeMany(logs, 0, 15);
        checks.equal("free() before a segment is opened", logs.free(), 6);
        logs.take(0);
        checks.equal("free() behind it", logs.free(), 5);
        logs.checkpoint();
        checks.equal("free() with one full", logs.free(), 5);
        Checks.dropRange(logs, 96, 15);
        logs.checkpoint();
        checks.equal("free() with one block in use", logs.free(), 5);
        logs.drop(111);
        checks.equal("free() with one block at the checkpoint", logs.free(), 5);
        logs.checkpoint();
        checks.equal("free() with none", logs.free(), 6);
        Checks.takeMany(logs, 1, 16);
        checks.equal("free() with segment 0 open again", logs.free(), 5);
        checks.equal("next(1)", logs.next(1), 96);
        for (int opened = 1; opened <= 5; opened++) {
            Checks.takeMany(logs, 2, 16);
            checks.equal("free() after " + opened + " more", logs.free(), 5 - opened);
        }
        checks.equal("free() of a large device", new SegmentLogs(128).free(), 122);
        checks.end();
    }
}
