/**
 * Promise 4, "A block is in use no more. IllegalArgumentException: no such block; IllegalStateException: it is not in
 * use."
 */
public final class Edge04DropTest {
    private static final Checks CHECKS = new Checks("edges of promise 4");

    public static void main(String[] args) {
        firstAndLastBlock(12, 12);
        firstAndLastBlock(13, 13);
        firstAndLastBlock(128, 128);
        firstAndLastBlock(11, 12);
        firstAndLastBlock(129, 12);
        noSuchBlock();
        notInUse();
        twice();
        lastBlockOfASegment();
        lastBlockOfTheDevice();
        inUseAtTheCheckpointAlone();
        writtenAgain();
        CHECKS.end();
    }

    private static void firstAndLastBlock(int asked, int segments) {
        Run run = new Run(CHECKS, "first and last block", asked, segments);
        run.dropThrows(95, Checks.ARGUMENT);
        run.dropThrows(96, Checks.STATE);
        run.dropThrows(run.lastBlock(), Checks.STATE);
        run.dropThrows(run.lastBlock() + 1, Checks.ARGUMENT);
        run.used(0);
        run.take(0, 96);
        run.dropThrows(95, Checks.ARGUMENT);
        run.dropThrows(97, Checks.STATE);
        run.used(1);
        run.drop(96);
        run.used(0);
        run.dropThrows(96, Checks.STATE);
        run.used(0);
        run.take(0, 97);
        run.looks(0, 0b10, 0, 2, 1);
    }

    /** Numbers that would come round to a block if 96 were taken off, or 16 multiplied, without a look at them. */
    private static void noSuchBlock() {
        int[] blocks = {
            -1, 0, 1, 16, 80, 94, -96, -112, 288, 289, 304, 2143, 2144, 96 + (1 << 16), 1 << 28, 96 + (1 << 28),
            Integer.MIN_VALUE, Integer.MIN_VALUE + 95, Integer.MIN_VALUE + 96, Integer.MIN_VALUE + 97,
            Integer.MAX_VALUE - 96, Integer.MAX_VALUE,
        };
        for (int block : blocks) {
            Run run = new Run(CHECKS, "no such block", 12);
            run.takes(0, 96, 9);
            run.unchangedBy("drop(" + block + ")", () -> run.dropThrows(block, Checks.ARGUMENT));
            run.used(9);
            run.drop(96);
            run.take(0, 105);
            run.looks(0, 0b1111111110, 0, 10, 1);
        }
    }

    private static void notInUse() {
        Run run = new Run(CHECKS, "not in use", 12);
        run.takes(4, 160, 2);
        run.unchangedBy("drop of the next block", () -> run.dropThrows(162, Checks.STATE));
        run.unchangedBy("drop in a free segment", () -> run.dropThrows(200, Checks.STATE));
        run.next(4, 162);
        run.take(4, 162);
        run.drop(162);
        run.used(2);
    }

    private static void twice() {
        Run run = new Run(CHECKS, "twice", 12);
        run.takes(1, 112, 3);
        run.drop(113);
        run.unchangedBy("a second drop", () -> run.dropThrows(113, Checks.STATE));
        run.isUsed(113, false);
        run.look(1, 0, 0b101);
        run.used(2);
        run.drop(112);
        run.drop(114);
        run.dropThrows(113, Checks.STATE);
        run.used(0);
        run.take(1, 115);
        run.looks(1, 0b1000, 0, 4, 1);
    }

    private static void lastBlockOfASegment() {
        Run run = new Run(CHECKS, "last block of a segment", 12);
        run.fills(0, 0);
        run.dropThrows(112, Checks.STATE);
        run.drop(111);
        run.look(0, 0, 0x7fff);
        run.dropThrows(111, Checks.STATE);
        run.drop(96);
        run.look(0, 0, 0x7ffe);
        run.look(1, 0, 0);
        run.dropThrows(192, Checks.STATE);
        run.take(0, 192);
        run.drop(192);
        run.used(14);
    }

    private static void lastBlockOfTheDevice() {
        Run run = new Run(CHECKS, "last block of the device", 12);
        run.fillsTwelve();
        run.drops(96, 16);
        run.checkpoint(1);
        run.takes(0, 272, 15);
        run.dropThrows(287, Checks.STATE);
        run.take(0, 287);
        run.used(96);
        run.drop(287);
        run.used(95);
        run.look(11, 0, 0x7fff);
        run.dropThrows(287, Checks.STATE);
        run.dropThrows(288, Checks.ARGUMENT);
        run.used(95);
    }

    private static void inUseAtTheCheckpointAlone() {
        Run run = new Run(CHECKS, "in use then", 12);
        run.takes(3, 144, 2);
        run.checkpoint(6);
        run.drop(144);
        run.looks(3, 0b10, 0b11, 2, 1);
        run.dropThrows(144, Checks.STATE);
        run.looks(3, 0b10, 0b11, 2, 1);
        run.checkpoint(6);
        run.dropThrows(144, Checks.STATE);
        run.looks(3, 0b10, 0b10, 2, 1);
        run.drop(145);
    }

    /** A block that has been dropped, forgotten and taken again can be dropped again. */
    private static void writtenAgain() {
        Run run = new Run(CHECKS, "written again", 12);
        run.fills(0, 0);
        run.drops(96, 16);
        run.checkpoint(6);
        run.fills(1, 1);
        run.dropThrows(96, Checks.STATE);
        run.take(1, 96);
        run.drop(96);
        run.dropThrows(96, Checks.STATE);
        run.used(16);
    }
}
