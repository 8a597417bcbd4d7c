/** Promise 1, "So many segments (12 .. 128; 12 for another number).": the numbers at either end, and far off. */
public final class Edge01NewObjectTest {
    private static final Checks CHECKS = new Checks("edges of promise 1");
    private static final int[] OTHERS = {
        11, 129, 10, 130, 6, 5, 1, 0, -1, -11, -12, -13, -128, 256, 268, 12 + (1 << 16), 128 + (1 << 16), 1 << 28,
        Integer.MIN_VALUE, Integer.MIN_VALUE + 12, Integer.MAX_VALUE,
    };

    public static void main(String[] args) {
        for (int s : new int[] {12, 13, 14, 127, 128}) {
            hasSoMany(s, s);
            openedAtFirst(s, s);
        }
        for (int s : OTHERS) {
            hasSoMany(s, 12);
            openedAtFirst(s, 12);
            isFullAs(s, 12);
        }
        everyNumberBetween();
        isFullAs(12, 12);
        isFullAs(13, 13);
        isFullAs(36, 36);
        sharesNothingWithAnother();
        CHECKS.end();
    }

    private static void hasSoMany(int asked, int due) {
        Run run = new Run(CHECKS, "so many", asked, due);
        run.free(due - 6);
        for (int what = 0; what < 4; what++) {
            run.look(due - 1, what, 0);
            run.lookThrows(due, what);
            run.lookThrows(-1, what);
        }
        run.isUsed(96, false);
        run.isUsedThrows(95);
        run.isUsed(95 + 16 * due, false);
        run.isUsedThrows(96 + 16 * due);
        run.dropThrows(95 + 16 * due, Checks.STATE);
        run.dropThrows(96 + 16 * due, Checks.ARGUMENT);
        run.checkpoint(due - 6);
    }

    private static void openedAtFirst(int asked, int due) {
        Run run = new Run(CHECKS, "at first", asked, due);
        for (int log = 0; log < 6; log++) {
            run.next(log, 96 + 16 * log);
            run.looks(log, 0, 0, 0, 1);
        }
        run.looks(6, 0, 0, 0, 0);
        run.looks(due - 1, 0, 0, 0, 0);
        run.used(0);
        run.victims(-1, -1);
    }

    private static void everyNumberBetween() {
        for (int s = -200; s <= 400; s++) {
            Run run = new Run(CHECKS, "every number", s, s >= 12 && s <= 128 ? s : 12);
            run.free(s >= 12 && s <= 128 ? s - 6 : 6);
        }
    }

    /** One log writes all but the five segments that the others keep open, and not the very last block. */
    private static void isFullAs(int asked, int due) {
        Run run = new Run(CHECKS, "full", asked, due);
        run.fills(0, 0);
        for (int segment = 6; segment < due - 1; segment++) {
            run.fills(0, segment);
        }
        run.free(0);
        run.takes(0, Run.block(due - 1, 0), 15);
        run.takeThrows(0, Checks.STATE);
        run.next(0, run.lastBlock());
    }

    private static void sharesNothingWithAnother() {
        Run first = new Run(CHECKS, "first of two", 12);
        Run second = new Run(CHECKS, "second of two", 12);
        first.fillsTwelve();
        first.checkpoint(0);
        second.free(6);
        second.used(0);
        second.take(0, 96);
        second.looks(0, 1, 0, 1, 1);
        first.used(96);
        first.looks(0, 0xffff, 0xffff, 16, 0);
    }
}
