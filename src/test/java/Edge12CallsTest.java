/**
 * "An object is used for at most 512 calls after it has been made": the 512th is answered as any other, whichever it is
 * and however the ones before were spent.
 */
public final class Edge12CallsTest {
    private static final Checks CHECKS = new Checks("edges of the calls");

    public static void main(String[] args) {
        takesAlone();
        lastCallOfEachKind();
        lastCallRefused();
        lastCallVictim();
        lastCallCheckpoint();
        refusedCallsAlone();
        sixLogs();
        CHECKS.end();
    }

    /** Log 0 takes 511 blocks: segments 0, 6 .. 35, and all but the last block of segment 36. */
    private static Run takes511(String name, int s) {
        Run run = new Run(CHECKS, name, s);
        run.fills(0, 0);
        for (int segment = 6; segment <= 35; segment++) {
            run.fills(0, segment);
        }
        run.takes(0, Run.block(36, 0), 15);
        return run;
    }

    private static void isLast(Run run) {
        CHECKS.equal("calls of a whole run", run.calls(), Run.MOST_CALLS);
    }

    /** 38 segments are just enough for 512 takings of one log; with 37 the last one is refused. */
    private static void takesAlone() {
        for (int s : new int[] {38, 39, 127, 128}) {
            Run enough = takes511("takes alone", s);
            enough.take(0, Run.block(36, 15));
            isLast(enough);
        }
        Run few = takes511("takes alone", 37);
        few.takeThrows(0, Checks.STATE);
        isLast(few);
    }

    private static void lastCallOfEachKind() {
        takes511("next", 128).next(0, Run.block(36, 15));
        takes511("drop", 128).drop(Run.block(36, 14));
        takes511("isUsed", 128).isUsed(Run.block(36, 14), true);
        takes511("isUsed", 128).isUsed(Run.block(36, 15), false);
        takes511("checkpoint", 128).checkpoint(91);
        takes511("free", 128).free(91);
        takes511("free", 37).free(0);
        takes511("used", 128).used(511);
        takes511("victim", 128).victim(false, -1);
        takes511("victim", 128).victim(true, -1);
        takes511("look", 128).look(36, 0, 0x7fff);
        takes511("look", 128).look(36, 1, 0);
        takes511("look", 128).look(36, 2, 511);
        takes511("look", 128).look(36, 3, 1);
        takes511("look", 128).look(127, 3, 0);
    }

    private static void lastCallRefused() {
        takes511("take refused", 128).takeThrows(6, Checks.ARGUMENT);
        takes511("next refused", 128).nextThrows(-1);
        takes511("drop refused", 128).dropThrows(Run.block(36, 15), Checks.STATE);
        takes511("drop refused", 128).dropThrows(2144, Checks.ARGUMENT);
        takes511("isUsed refused", 128).isUsedThrows(95);
        takes511("look refused", 128).lookThrows(128, 0);
        takes511("look refused", 128).lookThrows(0, 4);
    }

    private static void lastCallVictim() {
        // Segment 0 has 2 in use and the age 16, segment 34 has 1 and 480, of 480: 14 * 465 / 18 and 15 / 17.
        Run plain = victimAtTheEnd("plain victim");
        plain.victim(false, 34);
        isLast(plain);
        Run gentle = victimAtTheEnd("gentle victim");
        gentle.victim(true, 0);
        isLast(gentle);
    }

    private static Run victimAtTheEnd(String name) {
        Run run = new Run(CHECKS, name, 128);
        run.fills(0, 0);
        for (int segment = 6; segment <= 34; segment++) {
            run.fills(0, segment);
        }
        run.checkpoint(92);
        run.drops(Run.block(0, 0), 14);
        run.drops(Run.block(34, 0), 15);
        run.drop(Run.block(7, 0));
        return run;
    }

    private static void lastCallCheckpoint() {
        Run run = new Run(CHECKS, "checkpoints", 128);
        run.fills(0, 0);
        for (int i = 0; i < 479; i++) {
            run.checkpoint(121);
        }
        run.drops(96, 16);
        run.checkpoint(122);
        isLast(run);
    }

    private static void refusedCallsAlone() {
        Run run = new Run(CHECKS, "refused calls alone", 12);
        for (int i = 0; i < 102; i++) {
            run.takeThrows(6, Checks.ARGUMENT);
            run.nextThrows(6);
            run.dropThrows(96, Checks.STATE);
            run.isUsedThrows(288);
            run.lookThrows(12, 0);
        }
        run.take(0, 96);
        run.look(0, 2, 1);
        isLast(run);
    }

    /** Six logs in turn, 85 blocks each: they open 6 .. 11 behind their first segments, 12 .. 17 behind these, .. */
    private static void sixLogs() {
        Run run = new Run(CHECKS, "six logs", 128);
        for (int i = 0; i < 510; i++) {
            int log = i % 6;
            int written = i / 6;
            run.take(log, Run.block(written / 16 * 6 + log, written % 16));
        }
        run.used(510);
        run.free(92);
        isLast(run);
    }
}
