/**
 * Promise 9, "The victim; -1 for none.", with "with 1 .. 15 blocks in use", "of the same worth the lowest" and "rounded
 * down" of the terms.
 */
public final class Edge09VictimTest {
    private static final Checks CHECKS = new Checks("edges of promise 9");

    public static void main(String[] args) {
        noneAtAll();
        for (int inUse = 0; inUse <= 16; inUse++) {
            withSoManyInUse(inUse);
        }
        openOnes();
        leftSinceTheCheckpoint();
        firstAndLastSegment();
        sameWorthTheLowest();
        sameGentleWorthTheLowest();
        gentleWorthOfZero();
        roundedDownToTheSame();
        roundedDownToLess();
        agesAndOne();
        longAgo();
        otherCallsAreNoTakings();
        CHECKS.end();
    }

    /** Segments 0 and 1 full, of the ages 16 and 32, and forgotten as taken; so many more blocks taken by log 5. */
    private static Run twoFull(String name, int more) {
        Run run = new Run(CHECKS, name, 40);
        run.fills(0, 0);
        run.fills(1, 1);
        run.checkpoint(32);
        run.takes(5, Run.block(5, 0), more);
        return run;
    }

    private static void leaves(Run run, int segment, int inUse) {
        run.drops(Run.block(segment, 0), 16 - inUse);
    }

    private static void noneAtAll() {
        Run run = new Run(CHECKS, "none at all", 12);
        run.victims(-1, -1);
        run.checkpoint(6);
        run.victims(-1, -1);
        run.fills(0, 0);
        run.checkpoint(5);
        run.victims(-1, -1);
        run.drops(96, 16);
        run.victims(-1, -1);
        run.checkpoint(6);
        run.victims(-1, -1);
    }

    private static void withSoManyInUse(int inUse) {
        int due = inUse >= 1 && inUse <= 15 ? 0 : -1;
        Run dropsBehind = new Run(CHECKS, inUse + " in use, dropped behind the checkpoint", 12);
        dropsBehind.fills(0, 0);
        dropsBehind.checkpoint(5);
        leaves(dropsBehind, 0, inUse);
        dropsBehind.victims(due, due);

        Run dropsBefore = new Run(CHECKS, inUse + " in use, dropped before the checkpoint", 12);
        dropsBefore.fills(0, 0);
        leaves(dropsBefore, 0, inUse);
        dropsBefore.victims(-1, -1);
        dropsBefore.checkpoint(inUse == 0 ? 6 : 5);
        dropsBefore.victims(due, due);
    }

    private static void openOnes() {
        Run run = new Run(CHECKS, "open ones", 12);
        run.take(0, 96);
        run.takes(5, 176, 15);
        run.victims(-1, -1);
        run.checkpoint(6);
        run.victims(-1, -1);
        run.take(5, 191);
        run.drop(191);
        run.victims(-1, -1);
        run.checkpoint(5);
        run.victims(5, 5);
    }

    private static void leftSinceTheCheckpoint() {
        Run run = new Run(CHECKS, "left since the checkpoint", 12);
        run.takes(0, 96, 15);
        run.checkpoint(6);
        run.take(0, 111);
        run.drop(96);
        run.victims(-1, -1);
        run.checkpoint(5);
        run.victims(0, 0);
    }

    private static void firstAndLastSegment() {
        Run run = new Run(CHECKS, "first and last segment", 12);
        run.fillsTwelve();
        run.drops(96, 15);
        run.checkpoint(0);
        run.victims(0, 0);
        run.drop(111);
        run.checkpoint(1);
        run.fills(0, 11);
        run.drop(287);
        run.victims(-1, -1);
        run.checkpoint(0);
        run.victims(11, 11);
    }

    private static void sameWorthTheLowest() {
        Run run = new Run(CHECKS, "same worth", 40);
        run.fills(4, 4);
        run.fills(2, 2);
        run.fills(3, 3);
        run.checkpoint(31);
        leaves(run, 4, 8);
        run.victim(false, 4);
        leaves(run, 3, 8);
        run.victim(false, 3);
        leaves(run, 2, 9);
        run.victim(false, 3);
        run.drop(Run.block(2, 15));
        run.victim(false, 2);
        run.drop(Run.block(4, 15));
        run.victim(false, 4);
    }

    /** The lowest is the younger one here: 16 and 32 are the ages of segments 1 and 0. */
    private static void sameGentleWorthTheLowest() {
        Run run = new Run(CHECKS, "same gentle worth", 40);
        run.fills(1, 1);
        run.fills(0, 0);
        run.checkpoint(32);
        leaves(run, 0, 1);
        leaves(run, 1, 15);
        // (15 * 1) / 17 and (1 * 17) / 31: both 0.
        run.victim(true, 0);
        run.drop(Run.block(1, 15));
        // (2 * 17) / 30 = 1.
        run.victim(true, 1);
    }

    private static void gentleWorthOfZero() {
        Run run = new Run(CHECKS, "gentle worth of zero", 12);
        run.fills(3, 3);
        run.checkpoint(5);
        run.drop(Run.block(3, 0));
        // (1 * 1) / 31.
        run.victims(3, 3);
    }

    /** Of exactly 3 and 3.9 the lower segment, which has the 3. */
    private static void roundedDownToTheSame() {
        Run run = twoFull("rounded down to the same", 4);
        leaves(run, 0, 12);
        leaves(run, 1, 2);
        // (4 * 21) / 28 and (14 * 5) / 18.
        run.victims(1, 0);
        run.take(5, Run.block(5, 4));
        // (4 * 22) / 28 = 3.1 and (14 * 6) / 18 = 4.7.
        run.victims(1, 1);
    }

    /** Of 6.85 and exactly 7 the upper segment, which has the 7; rounded to the nearest they would be the same. */
    private static void roundedDownToLess() {
        Run run = twoFull("rounded down to less", 16);
        run.takes(5, Run.block(8, 0), 4);
        leaves(run, 0, 11);
        leaves(run, 1, 8);
        // (5 * 37) / 27 and (8 * 21) / 24.
        run.victims(1, 1);
    }

    /** (1 * 18) / 31 = 0 and (15 * 2) / 17 = 1; without the "and 1" both would be 0. */
    private static void agesAndOne() {
        Run run = twoFull("ages and one", 1);
        leaves(run, 0, 15);
        leaves(run, 1, 1);
        run.victims(1, 1);
    }

    /** Nearly as many takings as a run can have: of 14 * 449 / 18 = 349 and 8 * 433 / 24 = 144 the greater. */
    private static void longAgo() {
        Run run = new Run(CHECKS, "long ago", 128);
        run.fills(0, 0);
        for (int segment = 6; segment <= 33; segment++) {
            run.fills(0, segment);
        }
        run.checkpoint(93);
        leaves(run, 0, 2);
        leaves(run, 6, 8);
        run.victims(0, 0);
        run.look(33, 2, 464);
    }

    /** One taking more would make another victim; calls that take no block, and takes that are refused, do not. */
    private static void otherCallsAreNoTakings() {
        Run run = new Run(CHECKS, "other calls", 12);
        run.fills(5, 5, 6, 7, 8);
        run.takes(5, Run.block(9, 0), 15);
        run.fills(0, 0);
        run.fills(1, 1);
        run.checkpoint(0);
        leaves(run, 0, 14);
        leaves(run, 1, 1);
        run.take(2, 128);
        // Ages 95 and 111 of 112: (2 * 18) / 30 and (15 * 2) / 17, both 1.
        run.victims(1, 0);
        for (int i = 0; i < 3; i++) {
            run.takeThrows(5, Checks.STATE);
            run.takeThrows(6, Checks.ARGUMENT);
            run.dropThrows(129, Checks.STATE);
            run.next(2, 129);
            run.checkpoint(0);
            run.victims(1, 0);
        }
        run.drop(128);
        run.victims(1, 0);
        run.take(2, 129);
        // (2 * 19) / 30 = 1 and (15 * 3) / 17 = 2.
        run.victims(1, 1);
    }
}
