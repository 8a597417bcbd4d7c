/** The sentences of "Terms" that name a boundary case; each method's comment begins with its sentence. */
public final class Edge11TermsTest {
    private static final Checks CHECKS = new Checks("edges of the terms");

    public static void main(String[] args) {
        opensAtFirst();
        opensWhenTheLastBlockIsTaken();
        opensTheLowest();
        opensNotTheOneItLeaves();
        logsInTurn();
        isNotTakenWithoutAFreeSegment();
        ageIsZeroWhenThereWasNone();
        ageOfTheFirstAndTheLatestTaking();
        onlyOpenOnesAreTakenThen();
        allAreTakenBefore();
        writtenAgainBehindACheckpointAlone();
        roundAndRound();
        CHECKS.end();
    }

    /** "A log OPENS the lowest free segment, at first ..": log 0 segment 0, log 1 segment 1, and so on. */
    private static void opensAtFirst() {
        for (int s : new int[] {12, 128}) {
            Run run = new Run(CHECKS, "at first", s);
            for (int log = 5; log >= 0; log--) {
                run.take(log, Run.block(log, 0));
            }
            run.free(s - 6);
        }
    }

    /** ".. and when the last block of its open one is taken": not by the one before, and not by the one behind. */
    private static void opensWhenTheLastBlockIsTaken() {
        for (int log = 0; log < 6; log++) {
            Run run = new Run(CHECKS, "last block of log " + log, 12);
            run.takes(log, Run.block(log, 0), 15);
            run.free(6);
            run.look(6, 3, 0);
            run.next(log, Run.block(log, 15));
            run.take(log, Run.block(log, 15));
            run.free(5);
            run.looks(6, 0, 0, 0, 1);
            run.next(log, Run.block(6, 0));
            run.take(log, Run.block(6, 0));
            run.free(5);
            run.looks(6, 1, 0, 17, 1);
            run.looks(7, 0, 0, 0, 0);
        }
    }

    /** "the lowest free segment": below its own, and above the ones that are not free. */
    private static void opensTheLowest() {
        Run run = new Run(CHECKS, "the lowest", 12);
        run.fills(4, 4, 6, 7);
        run.drops(Run.block(4, 0), 16);
        run.drops(Run.block(7, 0), 16);
        run.checkpoint(5);
        run.fills(5, 5);
        run.next(5, Run.block(4, 0));
        run.fills(5, 4);
        run.next(5, Run.block(7, 0));
        run.fills(0, 0);
        run.next(0, Run.block(9, 0));
        run.fills(4, 8);
        run.next(4, Run.block(10, 0));
    }

    /** Its own open one is taken, even when none of its other blocks is in use any more. */
    private static void opensNotTheOneItLeaves() {
        Run run = new Run(CHECKS, "not the one it leaves", 12);
        run.takes(0, 96, 15);
        run.drops(96, 15);
        run.take(0, 111);
        run.next(0, 192);
        run.takes(0, 192, 15);
        run.drops(192, 15);
        run.checkpoint(5);
        run.take(0, 207);
        run.next(0, Run.block(7, 0));
    }

    /** Two logs at their last block open two segments, in the order of their takings. */
    private static void logsInTurn() {
        Run run = new Run(CHECKS, "logs in turn", 12);
        for (int log = 0; log < 6; log++) {
            run.takes(log, Run.block(log, 0), 15);
        }
        for (int log = 5; log >= 0; log--) {
            run.take(log, Run.block(log, 15));
            run.next(log, Run.block(11 - log, 0));
            run.free(log);
        }
        for (int log = 0; log < 6; log++) {
            run.take(log, Run.block(11 - log, 0));
        }
    }

    /** "When there would be no free segment to open, the block is not taken." */
    private static void isNotTakenWithoutAFreeSegment() {
        Run run = new Run(CHECKS, "not taken", 12);
        run.fillsTwelve();
        run.takes(0, 272, 15);
        run.unchangedBy("the refused take", () -> run.takeThrows(0, Checks.STATE));
        run.isUsed(287, false);
        run.used(111);
        run.looks(11, 0x7fff, 0, 111, 1);
        run.next(0, 287);
        run.drops(96, 16);
        run.checkpoint(1);
        run.take(0, 287);
        run.isUsed(287, true);
        run.used(96);
        run.looks(11, 0xffff, 0x7fff, 112, 1);
    }

    /** "0 when there was none": neither an opening, a checkpoint nor a refused call is a taking. */
    private static void ageIsZeroWhenThereWasNone() {
        Run run = new Run(CHECKS, "age 0", 12);
        for (int segment = 0; segment < 12; segment++) {
            run.look(segment, 2, 0);
        }
        run.checkpoint(6);
        run.takeThrows(6, Checks.ARGUMENT);
        run.dropThrows(96, Checks.STATE);
        run.look(0, 2, 0);
        run.fills(3, 3);
        run.look(6, 2, 0);
        run.look(3, 2, 16);
        run.take(3, 192);
        run.look(6, 2, 17);
        run.look(7, 2, 0);
        run.look(11, 2, 0);
    }

    /** "1 for the first taking of all, 2, ..": over all logs, and it stays when blocks are dropped or forgotten. */
    private static void ageOfTheFirstAndTheLatestTaking() {
        Run run = new Run(CHECKS, "first and latest taking", 12);
        run.take(5, 176);
        run.look(5, 2, 1);
        run.take(0, 96);
        run.look(0, 2, 2);
        run.look(5, 2, 1);
        run.take(5, 177);
        run.look(5, 2, 3);
        run.drop(177);
        run.look(5, 2, 3);
        run.drop(176);
        run.checkpoint(6);
        run.checkpoint(6);
        run.look(5, 2, 3);
        run.takeThrows(6, Checks.ARGUMENT);
        run.take(4, 160);
        run.look(4, 2, 4);
    }

    /** "only open segments are taken then": full, half used and empty ones that were left are not. */
    private static void onlyOpenOnesAreTakenThen() {
        Run run = new Run(CHECKS, "taken then", 12);
        run.fills(0, 0, 6, 7);
        run.drops(Run.block(6, 0), 8);
        run.drops(Run.block(7, 0), 16);
        areTaken(run, 0, 1, 2, 3, 4, 5, 6, 7, 8);
        run.checkpoint(4);
        areTaken(run, 1, 2, 3, 4, 5, 8);
        run.checkpoint(4);
        areTaken(run, 1, 2, 3, 4, 5, 8);
        run.fills(0, 8);
        areTaken(run, 1, 2, 3, 4, 5, 7, 8);
        run.checkpoint(3);
        areTaken(run, 1, 2, 3, 4, 5, 7);
    }

    private static void allAreTakenBefore() {
        Run run = new Run(CHECKS, "all taken", 12);
        run.fillsTwelve();
        areTaken(run, 0, 1, 2, 3, 4, 5, 6, 7, 8, 9, 10, 11);
        run.checkpoint(0);
        areTaken(run, 1, 2, 3, 4, 5, 11);
    }

    private static void areTaken(Run run, int... due) {
        boolean[] taken = new boolean[12];
        for (int segment : due) {
            taken[segment] = true;
        }
        for (int segment = 0; segment < 12; segment++) {
            run.look(segment, 3, taken[segment] ? 1 : 0);
        }
    }

    /** "no segment is written again before a checkpoint has forgotten it": though each block is dropped at once. */
    private static void writtenAgainBehindACheckpointAlone() {
        Run run = new Run(CHECKS, "written again", 12);
        for (int segment : new int[] {0, 6, 7, 8, 9, 10}) {
            takesAndDrops(run, segment, 0, 16);
        }
        takesAndDrops(run, 11, 0, 15);
        run.used(0);
        run.takeThrows(0, Checks.STATE);
        run.checkpoint(6);
        takesAndDrops(run, 11, 15, 1);
        for (int segment : new int[] {0, 6, 7, 8, 9}) {
            takesAndDrops(run, segment, 0, 16);
        }
        takesAndDrops(run, 10, 0, 15);
        run.used(0);
        run.takeThrows(0, Checks.STATE);
        run.looks(10, 0, 0, 207, 1);
        run.checkpoint(6);
        run.take(0, 271);
        run.next(0, 96);
    }

    private static void takesAndDrops(Run run, int segment, int first, int times) {
        for (int k = first; k < first + times; k++) {
            run.take(0, Run.block(segment, k));
            run.drop(Run.block(segment, k));
        }
    }

    /** One log to and fro between two segments: each is forgotten just before it is the lowest free one again. */
    private static void roundAndRound() {
        Run run = new Run(CHECKS, "round and round", 12);
        for (int round = 0; round < 15; round++) {
            int segment = round % 2 == 0 ? 0 : 6;
            run.fills(0, segment);
            run.drops(Run.block(segment, 0), 16);
            run.checkpoint(6);
        }
        run.looks(0, 0, 0, 240, 0);
        run.looks(6, 0, 0, 224, 1);
        run.next(0, 192);
    }
}
