/** Promise 5, "Whether a block is in use. IllegalArgumentException: no such block." */
public final class Edge05IsUsedTest {
    private static final Checks CHECKS = new Checks("edges of promise 5");

    public static void main(String[] args) {
        firstAndLastBlock(12, 12);
        firstAndLastBlock(13, 13);
        firstAndLastBlock(128, 128);
        firstAndLastBlock(11, 12);
        firstAndLastBlock(129, 12);
        noSuchBlock();
        nextToOnesInUse();
        lastBlockOfTheDevice();
        refusedAndDropped();
        CHECKS.end();
    }

    private static void firstAndLastBlock(int asked, int segments) {
        Run run = new Run(CHECKS, "first and last block", asked, segments);
        run.isUsedThrows(95);
        run.isUsed(96, false);
        run.isUsed(run.lastBlock(), false);
        run.isUsedThrows(run.lastBlock() + 1);
        run.take(0, 96);
        run.isUsedThrows(95);
        run.isUsed(96, true);
        run.isUsed(97, false);
        run.isUsed(run.lastBlock(), false);
        run.isUsedThrows(run.lastBlock() + 1);
        run.used(1);
    }

    private static void noSuchBlock() {
        int[] blocks = {
            -1, 0, 1, 16, 80, 94, -96, -112, 288, 289, 304, 2143, 2144, 96 + (1 << 16), 1 << 28, 96 + (1 << 28),
            Integer.MIN_VALUE, Integer.MIN_VALUE + 95, Integer.MIN_VALUE + 96, Integer.MIN_VALUE + 97,
            Integer.MAX_VALUE - 96, Integer.MAX_VALUE,
        };
        for (int block : blocks) {
            Run run = new Run(CHECKS, "no such block", 12);
            run.takes(0, 96, 9);
            run.unchangedBy("isUsed(" + block + ")", () -> run.isUsedThrows(block));
            run.isUsed(96, true);
            run.isUsed(105, false);
        }
    }

    /** Full segments next to empty ones: the first and the last block of each. */
    private static void nextToOnesInUse() {
        Run run = new Run(CHECKS, "next to ones in use", 12);
        run.fills(1, 1);
        run.fills(4, 4);
        for (int segment = 0; segment < 12; segment++) {
            boolean full = segment == 1 || segment == 4;
            run.isUsed(Run.block(segment, 0), full);
            run.isUsed(Run.block(segment, 15), full);
        }
    }

    private static void lastBlockOfTheDevice() {
        Run run = new Run(CHECKS, "last block of the device", 12);
        run.fillsTwelve();
        run.drops(96, 16);
        run.checkpoint(1);
        run.takes(0, 272, 15);
        run.isUsed(286, true);
        run.isUsed(287, false);
        run.take(0, 287);
        run.isUsed(287, true);
        run.isUsedThrows(288);
    }

    private static void refusedAndDropped() {
        Run run = new Run(CHECKS, "refused and dropped", 12);
        run.fillsTwelve();
        run.takes(0, 272, 15);
        run.takeThrows(0, Checks.STATE);
        run.isUsed(287, false);
        run.checkpoint(0);
        run.isUsed(96, true);
        run.drop(96);
        run.isUsed(96, false);
        run.dropThrows(96, Checks.STATE);
        run.isUsed(96, false);
        run.isUsed(97, true);
        run.checkpoint(0);
        run.isUsed(96, false);
    }
}
