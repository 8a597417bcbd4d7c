/** Promise 6: what is in use now was so at the checkpoint; only open segments are taken then. */
public final class Promise06CheckpointTest {
    private static final Checks CHECKS = new Checks("promise 6");

    public static void main(String[] args) {
        keepsWhatIsInUse();
        untakesAllButTheOpenOnes();
        freesAtTheSecondCheckpoint();
        CHECKS.end();
    }

    private static void keepsWhatIsInUse() {
        SegmentLogs logs = new SegmentLogs(12);
        Checks.takeMany(logs, 4, 5);
        logs.drop(161);
        CHECKS.equal("look(4, 1) before", logs.look(4, 1), 0);
        CHECKS.equal("checkpoint()", logs.checkpoint(), 6);
        CHECKS.equal("look(4, 1)", logs.look(4, 1), 0b11101);
        logs.drop(160);
        logs.take(4);
        CHECKS.equal("look(4, 1) later", logs.look(4, 1), 0b11101);
        CHECKS.equal("look(4, 0) later", logs.look(4, 0), 0b111100);
        logs.checkpoint();
        CHECKS.equal("look(4, 1) at the next one", logs.look(4, 1), 0b111100);
        CHECKS.equal("look(4, 2)", logs.look(4, 2), 6);
    }

    private static void untakesAllButTheOpenOnes() {
        SegmentLogs logs = new SegmentLogs(12);
        Checks.takeMany(logs, 0, 33);
        logs.checkpoint();
        int[] due = {0, 1, 1, 1, 1, 1, 0, 1, 0, 0, 0, 0};
        for (int segment = 0; segment < 12; segment++) {
            CHECKS.equal("look(" + segment + ", 3)", logs.look(segment, 3), due[segment]);
        }
        Checks.takeMany(logs, 0, 15);
        CHECKS.equal("look(7, 3), left since the checkpoint", logs.look(7, 3), 1);
        CHECKS.equal("look(8, 3), opened since the checkpoint", logs.look(8, 3), 1);
        logs.checkpoint();
        CHECKS.equal("look(7, 3), left before the checkpoint", logs.look(7, 3), 0);
        CHECKS.equal("look(8, 3), open", logs.look(8, 3), 1);
    }

    private static void freesAtTheSecondCheckpoint() {
        SegmentLogs logs = new SegmentLogs(12);
        Checks.takeMany(logs, 0, 16);
        CHECKS.equal("checkpoint() with segment 0 in use", logs.checkpoint(), 5);
        Checks.dropRange(logs, 96, 16);
        CHECKS.equal("free(): it was in use at the checkpoint", logs.free(), 5);
        CHECKS.equal("checkpoint() that forgets it", logs.checkpoint(), 6);
        CHECKS.equal("checkpoint() again", logs.checkpoint(), 6);
        CHECKS.equal("free()", logs.free(), 6);

        Checks.takeMany(logs, 1, 16);
        Checks.dropRange(logs, 112, 16);
        CHECKS.equal("free(): taken since the checkpoint", logs.free(), 5);
        CHECKS.equal("checkpoint() with an empty segment", logs.checkpoint(), 6);
    }
}
