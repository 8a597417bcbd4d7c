/**
 * Promises 6 and 7, by "A segment is FREE when none of its blocks is in use now, none was at the latest checkpoint, and
 * it is not TAKEN: taken are the six open ones (each log has one), and those that a block was taken of, or that were
 * opened, since the checkpoint."
 */
public final class Edge06CheckpointAndFreeTest {
    private static final Checks CHECKS = new Checks("edges of promises 6 and 7");

    public static void main(String[] args) {
        mostThatCanBeFree(12);
        mostThatCanBeFree(128);
        noneIsFree();
        for (int k = 0; k < 16; k++) {
            oneBlockInUse(k);
            oneBlockAtTheCheckpoint(k);
        }
        takenSinceTheCheckpoint();
        openedSinceTheCheckpoint();
        openAndEmpty();
        openedByTheLastTakeBefore();
        oneCheckpointAndTwo();
        behindRefusedCalls();
        CHECKS.end();
    }

    /** Six are open at all times, so that no more than the others can be free. */
    private static void mostThatCanBeFree(int s) {
        Run run = new Run(CHECKS, "most", s);
        run.free(s - 6);
        run.checkpoint(s - 6);
        run.free(s - 6);
        run.fills(0, 0, 6);
        run.free(s - 8);
        run.drops(Run.block(0, 0), 16);
        run.drops(Run.block(6, 0), 16);
        run.free(s - 8);
        run.checkpoint(s - 6);
        run.free(s - 6);
    }

    private static void noneIsFree() {
        Run run = new Run(CHECKS, "none", 12);
        run.fills(0, 0, 6, 7, 8, 9);
        run.free(1);
        run.takes(0, 256, 15);
        run.free(1);
        run.take(0, 271);
        run.free(0);
        run.checkpoint(0);
        run.free(0);
        for (int segment : new int[] {0, 6, 7, 8, 9, 10}) {
            run.drops(Run.block(segment, 0), 16);
        }
        run.used(0);
        run.free(0);
        run.checkpoint(6);
        run.free(6);
    }

    /** Not open, and in use now and then; one block is enough. */
    private static void oneBlockInUse(int k) {
        Run run = new Run(CHECKS, "block " + k + " in use", 12);
        run.fills(0, 0);
        dropsAllBut(run, k);
        run.checkpoint(5);
        run.free(5);
        run.looks(0, 1 << k, 1 << k, 16, 0);
        run.drop(Run.block(0, k));
        run.checkpoint(6);
    }

    /** Not open, not in use now; one block at the checkpoint is enough. */
    private static void oneBlockAtTheCheckpoint(int k) {
        Run run = new Run(CHECKS, "block " + k + " at the checkpoint", 12);
        run.fills(0, 0);
        dropsAllBut(run, k);
        run.checkpoint(5);
        run.drop(Run.block(0, k));
        run.looks(0, 0, 1 << k, 16, 0);
        run.free(5);
        run.fills(1, 1);
        run.next(1, Run.block(7, 0));
        run.checkpoint(5);
        run.looks(0, 0, 0, 16, 0);
        run.fills(1, 7);
        run.next(1, Run.block(0, 0));
    }

    private static void dropsAllBut(Run run, int k) {
        run.drops(Run.block(0, 0), k);
        run.drops(Run.block(0, k + 1), 15 - k);
    }

    /** Neither in use now nor at the checkpoint, and left by its log: one block taken since is enough. */
    private static void takenSinceTheCheckpoint() {
        Run run = new Run(CHECKS, "taken since", 12);
        run.takes(0, 96, 15);
        run.drops(96, 15);
        run.checkpoint(6);
        run.looks(0, 0, 0, 15, 1);
        run.take(0, 111);
        run.drop(111);
        run.looks(0, 0, 0, 16, 1);
        run.free(5);
        run.checkpoint(6);
        run.looks(0, 0, 0, 16, 0);
        run.free(6);
    }

    /** Opened and left since the checkpoint, with all its blocks dropped. */
    private static void openedSinceTheCheckpoint() {
        Run run = new Run(CHECKS, "opened since", 12);
        run.takes(0, 96, 15);
        run.checkpoint(6);
        run.looks(6, 0, 0, 0, 0);
        run.take(0, 111);
        run.looks(6, 0, 0, 0, 1);
        run.free(5);
        run.fills(0, 6);
        run.drops(192, 16);
        run.looks(6, 0, 0, 32, 1);
        run.free(4);
        run.checkpoint(5);
        run.looks(6, 0, 0, 32, 0);
    }

    private static void openAndEmpty() {
        Run run = new Run(CHECKS, "open and empty", 12);
        for (int log = 0; log < 6; log++) {
            run.takes(log, Run.block(log, 0), 15);
            run.drops(Run.block(log, 0), 15);
        }
        run.free(6);
        run.checkpoint(6);
        run.checkpoint(6);
        for (int log = 0; log < 6; log++) {
            run.looks(log, 0, 0, 15 * log + 15, 1);
        }
        run.used(0);
    }

    /** The segment that a log has opened and not written yet stays its own over checkpoints. */
    private static void openedByTheLastTakeBefore() {
        Run run = new Run(CHECKS, "opened by the last take", 12);
        run.fills(5, 5);
        run.checkpoint(5);
        run.looks(6, 0, 0, 0, 1);
        run.checkpoint(5);
        run.looks(6, 0, 0, 0, 1);
        run.fills(0, 0);
        run.next(0, Run.block(7, 0));
        run.take(5, Run.block(6, 0));
    }

    /** A segment that was in use at the first of them is free behind the second one alone. */
    private static void oneCheckpointAndTwo() {
        Run run = new Run(CHECKS, "one and two", 12);
        run.checkpoint(6);
        run.fills(2, 2);
        run.free(5);
        run.checkpoint(5);
        run.looks(2, 0xffff, 0xffff, 16, 0);
        run.drops(128, 16);
        run.free(5);
        run.checkpoint(6);
        run.looks(2, 0, 0, 16, 0);
        run.checkpoint(6);
        run.fills(3, 3);
        run.next(3, 128);
    }

    private static void behindRefusedCalls() {
        Run run = new Run(CHECKS, "behind refused calls", 12);
        run.fillsTwelve();
        run.takes(0, 272, 15);
        run.takeThrows(0, Checks.STATE);
        run.free(0);
        run.checkpoint(0);
        run.looks(11, 0x7fff, 0x7fff, 111, 1);
        run.drops(192, 16);
        run.takeThrows(0, Checks.STATE);
        run.dropThrows(192, Checks.STATE);
        run.dropThrows(95, Checks.ARGUMENT);
        run.takeThrows(6, Checks.ARGUMENT);
        run.free(0);
        run.checkpoint(1);
        run.free(1);
    }
}
