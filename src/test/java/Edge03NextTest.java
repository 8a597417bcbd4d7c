/** Promise 3, "The block that a log takes next. IllegalArgumentException: no such log." */
public final class Edge03NextTest {
    private static final Checks CHECKS = new Checks("edges of promise 3");
    private static final int[] NO_LOGS = {-1, 6, -2, 7, 12, 96, 256, 1 << 16, 1 << 28, Integer.MIN_VALUE, Integer.MAX_VALUE};

    public static void main(String[] args) {
        firstAndLastLog(12);
        firstAndLastLog(128);
        noSuchLog();
        roundTheLastBlock();
        withoutAFreeSegment();
        goesBackToTheLowest();
        CHECKS.end();
    }

    private static void firstAndLastLog(int s) {
        Run run = new Run(CHECKS, "first and last log", s);
        run.next(0, 96);
        run.nextThrows(-1);
        run.next(5, 176);
        run.nextThrows(6);
        run.next(0, 96);
        run.next(5, 176);
        run.used(0);
        run.take(0, 96);
        run.take(5, 176);
    }

    private static void noSuchLog() {
        for (int log : NO_LOGS) {
            Run run = new Run(CHECKS, "no such log", 12);
            run.takes(2, 128, 3);
            run.unchangedBy("next(" + log + ")", () -> run.nextThrows(log));
            run.next(2, 131);
            run.take(2, 131);
            run.looks(2, 0b1111, 0, 4, 1);
        }
    }

    private static void roundTheLastBlock() {
        for (int log = 0; log < 6; log++) {
            Run run = new Run(CHECKS, "round the last block", 12);
            for (int k = 0; k < 16; k++) {
                run.next(log, Run.block(log, k));
                run.take(log, Run.block(log, k));
            }
            run.next(log, 192);
            run.take(log, 192);
            run.next(log, 193);
        }
    }

    private static void withoutAFreeSegment() {
        Run run = new Run(CHECKS, "without a free segment", 12);
        run.fillsTwelve();
        run.takes(0, 272, 15);
        run.next(0, 287);
        run.takeThrows(0, Checks.STATE);
        run.next(0, 287);
        run.takeThrows(6, Checks.ARGUMENT);
        run.nextThrows(6);
        run.drops(192, 16);
        run.next(0, 287);
        run.checkpoint(1);
        run.next(0, 287);
        run.take(0, 287);
        run.next(0, 192);
    }

    /** From the last segment of the device to the first one. */
    private static void goesBackToTheLowest() {
        Run run = new Run(CHECKS, "back to the lowest", 12);
        run.fillsTwelve();
        run.drops(96, 16);
        run.checkpoint(1);
        run.takes(0, 272, 15);
        run.next(0, 287);
        run.take(0, 287);
        run.next(0, 96);
        run.take(0, 96);
    }
}
