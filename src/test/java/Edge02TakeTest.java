/**
 * Promise 2, "The next block of a log (0 .. 5): it. IllegalArgumentException: no such log; IllegalStateException:
 * there is no free segment to open behind it."
 */
public final class Edge02TakeTest {
    private static final Checks CHECKS = new Checks("edges of promise 2");
    private static final int[] NO_LOGS = {-1, 6, -2, 7, 12, 96, 256, 1 << 16, 1 << 28, Integer.MIN_VALUE, Integer.MAX_VALUE};

    public static void main(String[] args) {
        firstAndLastLog();
        noSuchLog();
        noSuchLogOnAFullDevice();
        lastFreeSegment();
        refusedAtTheLastBlockAlone();
        goesOnBehindARefusal();
        emptyButStillTaken();
        emptyButInUseAtTheCheckpoint();
        allSixRefused();
        oneFreeSegmentForTwoLogs();
        CHECKS.end();
    }

    private static void firstAndLastLog() {
        Run run = new Run(CHECKS, "first and last log", 12);
        run.take(0, 96);
        run.take(5, 176);
        run.take(0, 97);
        run.take(5, 177);
        run.used(4);
    }

    private static void noSuchLog() {
        for (int log : NO_LOGS) {
            Run run = new Run(CHECKS, "no such log", 12);
            run.take(3, 144);
            run.unchangedBy("take(" + log + ")", () -> run.takeThrows(log, Checks.ARGUMENT));
            run.take(3, 145);
            run.looks(3, 0b11, 0, 2, 1);
            run.used(2);
        }
    }

    private static void noSuchLogOnAFullDevice() {
        Run run = new Run(CHECKS, "no such log, full", 12);
        run.fillsTwelve();
        run.takes(0, 272, 15);
        for (int log : NO_LOGS) {
            run.takeThrows(log, Checks.ARGUMENT);
        }
        run.takeThrows(0, Checks.STATE);
    }

    private static void lastFreeSegment() {
        Run run = new Run(CHECKS, "the last free segment", 12);
        run.fills(0, 0, 6, 7, 8, 9);
        run.takes(0, 256, 15);
        run.free(1);
        run.take(0, 271);
        run.free(0);
        run.next(0, 272);
        run.looks(11, 0, 0, 0, 1);
        run.takes(0, 272, 15);
        run.takeThrows(0, Checks.STATE);
    }

    /** Without a free segment every other block of the open ones can still be taken. */
    private static void refusedAtTheLastBlockAlone() {
        Run run = new Run(CHECKS, "the last block alone", 12);
        run.fillsTwelve();
        run.free(0);
        for (int log = 1; log < 6; log++) {
            run.takes(log, Run.block(log, 0), 15);
            run.takeThrows(log, Checks.STATE);
            run.next(log, Run.block(log, 15));
        }
        run.takes(0, 272, 15);
        run.takeThrows(0, Checks.STATE);
        run.next(0, 287);
    }

    private static void goesOnBehindARefusal() {
        Run run = new Run(CHECKS, "behind a refusal", 12);
        run.fillsTwelve();
        run.takes(0, 272, 15);
        run.unchangedBy("a refused take", () -> run.takeThrows(0, Checks.STATE));
        run.unchangedBy("a refused take again", () -> run.takeThrows(0, Checks.STATE));
        run.next(0, 287);
        run.isUsed(287, false);
        run.dropThrows(287, Checks.STATE);
        run.used(111);
        run.looks(11, 0x7fff, 0, 111, 1);
        run.take(1, 112);
        run.looks(1, 1, 0, 112, 1);
        run.drop(286);
        run.takeThrows(0, Checks.STATE);
        run.used(111);
    }

    private static void emptyButStillTaken() {
        Run run = new Run(CHECKS, "empty but taken", 12);
        run.fillsTwelve();
        run.takes(0, 272, 15);
        run.drops(Run.block(8, 0), 16);
        run.looks(8, 0, 0, 64, 1);
        run.takeThrows(0, Checks.STATE);
        run.checkpoint(1);
        run.take(0, 287);
        run.looks(11, 0xffff, 0x7fff, 112, 1);
        run.next(0, Run.block(8, 0));
        run.free(0);
        run.take(0, Run.block(8, 0));
        run.looks(8, 1, 0, 113, 1);
    }

    private static void emptyButInUseAtTheCheckpoint() {
        Run run = new Run(CHECKS, "empty but in use then", 12);
        run.fillsTwelve();
        run.takes(0, 272, 15);
        run.checkpoint(0);
        run.takeThrows(0, Checks.STATE);
        run.drops(Run.block(9, 0), 15);
        run.takeThrows(0, Checks.STATE);
        run.checkpoint(0);
        run.takeThrows(0, Checks.STATE);
        run.drop(Run.block(9, 15));
        run.takeThrows(0, Checks.STATE);
        run.looks(9, 0, 0x8000, 80, 0);
        run.checkpoint(1);
        run.take(0, 287);
        run.next(0, Run.block(9, 0));
    }

    private static void allSixRefused() {
        Run run = new Run(CHECKS, "all six", 12);
        run.fillsTwelve();
        run.takes(0, 272, 15);
        for (int log = 1; log < 6; log++) {
            run.takes(log, Run.block(log, 0), 15);
        }
        for (int log = 0; log < 6; log++) {
            run.takeThrows(log, Checks.STATE);
        }
        run.used(186);
        run.free(0);
        for (int log = 5; log >= 0; log--) {
            run.takeThrows(log, Checks.STATE);
            run.next(log, log == 0 ? 287 : Run.block(log, 15));
        }
    }

    private static void oneFreeSegmentForTwoLogs() {
        Run run = new Run(CHECKS, "one for two", 12);
        run.fills(0, 0, 6, 7, 8, 9);
        run.takes(0, 256, 15);
        run.takes(5, 176, 15);
        run.free(1);
        run.take(5, 191);
        run.free(0);
        run.takeThrows(0, Checks.STATE);
        run.next(0, 271);
        run.take(5, 272);
        run.looks(10, 0x7fff, 0, 95, 1);
        run.looks(5, 0xffff, 0, 111, 1);
        run.looks(11, 1, 0, 112, 1);
    }
}
