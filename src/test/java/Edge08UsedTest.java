/** Promise 8, "Blocks in use.": none, one, all that can be, and what refused calls leave. */
public final class Edge08UsedTest {
    private static final Checks CHECKS = new Checks("edges of promise 8");

    public static void main(String[] args) {
        noneAndOne(12);
        noneAndOne(128);
        wholeSegments();
        fullDevice();
        refusedCalls();
        inUseNow();
        CHECKS.end();
    }

    private static void noneAndOne(int s) {
        Run run = new Run(CHECKS, "none and one", s);
        run.used(0);
        run.take(5, 176);
        run.used(1);
        run.drop(176);
        run.used(0);
        run.dropThrows(176, Checks.STATE);
        run.used(0);
        run.take(5, 177);
        run.used(1);
    }

    private static void wholeSegments() {
        Run run = new Run(CHECKS, "whole segments", 12);
        run.takes(0, 96, 15);
        run.used(15);
        run.take(0, 111);
        run.used(16);
        run.take(0, 192);
        run.used(17);
        run.drops(96, 16);
        run.used(1);
        run.drop(192);
        run.used(0);
    }

    /** Of 192 blocks six stay out of use: each log's last one, behind which nothing can be opened. */
    private static void fullDevice() {
        Run run = new Run(CHECKS, "full device", 12);
        run.fillsTwelve();
        run.takes(0, 272, 15);
        for (int log = 1; log < 6; log++) {
            run.takes(log, Run.block(log, 0), 15);
        }
        run.used(186);
        for (int log = 0; log < 6; log++) {
            run.takeThrows(log, Checks.STATE);
            run.used(186);
        }
        run.drop(286);
        run.used(185);
        run.takeThrows(0, Checks.STATE);
        run.used(185);
    }

    private static void refusedCalls() {
        Run run = new Run(CHECKS, "refused calls", 12);
        run.takes(2, 128, 4);
        run.takeThrows(-1, Checks.ARGUMENT);
        run.takeThrows(6, Checks.ARGUMENT);
        run.dropThrows(95, Checks.ARGUMENT);
        run.dropThrows(288, Checks.ARGUMENT);
        run.dropThrows(132, Checks.STATE);
        run.used(4);
    }

    private static void inUseNow() {
        Run run = new Run(CHECKS, "in use now", 12);
        run.fills(0, 0);
        run.checkpoint(5);
        run.used(16);
        run.drops(96, 16);
        run.used(0);
        run.checkpoint(6);
        run.used(0);
    }
}
