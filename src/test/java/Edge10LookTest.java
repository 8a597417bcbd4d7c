/** Promise 10, "IllegalArgumentException: no such segment or what.", and the ends of what look answers. */
public final class Edge10LookTest {
    private static final Checks CHECKS = new Checks("edges of promise 10");
    private static final int[] NO_WHATS = {-1, 4, -2, 5, 16, 256, 1 << 16, Integer.MIN_VALUE, Integer.MAX_VALUE};

    public static void main(String[] args) {
        firstAndLastSegment(12, 12);
        firstAndLastSegment(13, 13);
        firstAndLastSegment(128, 128);
        firstAndLastSegment(11, 12);
        firstAndLastSegment(129, 12);
        noSuchSegment();
        noSuchWhat();
        bitOfEachBlock();
        lastSegmentInUse();
        behindARefusal();
        CHECKS.end();
    }

    private static void firstAndLastSegment(int asked, int segments) {
        Run run = new Run(CHECKS, "first and last segment", asked, segments);
        for (int what = 0; what < 4; what++) {
            run.lookThrows(-1, what);
            run.look(0, what, what == 3 ? 1 : 0);
            run.look(segments - 1, what, 0);
            run.lookThrows(segments, what);
        }
        for (int segment : new int[] {-1, 0, segments - 1, segments}) {
            for (int what : NO_WHATS) {
                run.lookThrows(segment, what);
            }
        }
        run.take(0, 96);
        run.looks(0, 1, 0, 1, 1);
    }

    private static void noSuchSegment() {
        int[] segments = {-1, 12, -2, 13, 96, 127, 128, 129, 256, 1 << 16, 1 << 28, Integer.MIN_VALUE, Integer.MAX_VALUE};
        for (int segment : segments) {
            Run run = new Run(CHECKS, "no such segment", 12);
            run.takes(1, 112, 3);
            run.unchangedBy("look(" + segment + ", 0)", () -> run.lookThrows(segment, 0));
            run.lookThrows(segment, 3);
            run.lookThrows(segment, 4);
            run.looks(1, 0b111, 0, 3, 1);
            run.take(1, 115);
        }
    }

    private static void noSuchWhat() {
        for (int what : NO_WHATS) {
            Run run = new Run(CHECKS, "no such what", 12);
            run.takes(1, 112, 3);
            run.unchangedBy("look(1, " + what + ")", () -> run.lookThrows(1, what));
            run.looks(1, 0b111, 0, 3, 1);
            run.take(1, 115);
        }
    }

    /** Block k is bit k: 1 for the first block, 32768 for the last one, 65535 for all. */
    private static void bitOfEachBlock() {
        Run run = new Run(CHECKS, "bit of each block", 12);
        for (int k = 0; k < 16; k++) {
            run.looks(0, (1 << k) - 1, 0, k, 1);
            run.take(0, Run.block(0, k));
        }
        run.looks(0, 65535, 0, 16, 1);
        run.checkpoint(5);
        run.looks(0, 65535, 65535, 16, 0);
        for (int k = 0; k < 15; k++) {
            run.drop(Run.block(0, k));
            run.looks(0, 65535 & -2 << k, 65535, 16, 0);
        }
        run.looks(0, 32768, 65535, 16, 0);
        run.checkpoint(5);
        run.looks(0, 32768, 32768, 16, 0);
        run.drop(111);
        run.looks(0, 0, 32768, 16, 0);
        run.checkpoint(6);
        run.looks(0, 0, 0, 16, 0);
    }

    private static void lastSegmentInUse() {
        Run run = new Run(CHECKS, "last segment in use", 12);
        run.fills(0, 0, 6, 7, 8, 9);
        run.takes(0, 256, 15);
        run.looks(11, 0, 0, 0, 0);
        run.take(0, 271);
        run.looks(11, 0, 0, 0, 1);
        run.take(0, 272);
        run.looks(11, 1, 0, 97, 1);
        run.checkpoint(0);
        run.looks(11, 1, 1, 97, 1);
        run.lookThrows(12, 0);
    }

    private static void behindARefusal() {
        Run run = new Run(CHECKS, "behind a refusal", 12);
        run.fillsTwelve();
        run.takes(0, 272, 15);
        run.takeThrows(0, Checks.STATE);
        run.looks(11, 0x7fff, 0, 111, 1);
        run.take(5, 176);
        run.looks(5, 1, 0, 112, 1);
        run.looks(11, 0x7fff, 0, 111, 1);
    }
}
