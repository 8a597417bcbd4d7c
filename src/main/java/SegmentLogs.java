/** The segments of a flash device, the six logs that write on them, and the latest checkpoint. */
public final class SegmentLogs {
    private static final int LOGS = 6;
    private static final int LEAST_SEGMENTS = 12;
    private static final int MOST_SEGMENTS = 128;
    private static final int BLOCKS = 16;
    private static final int FIRST_BLOCK = 96;
    private static final int NONE = -1;

    private static final int LOOK_USED_NOW = 0;
    private static final int LOOK_USED_THEN = 1;
    private static final int LOOK_AGE = 2;
    private static final int LOOK_TAKEN = 3;

    private final int segments;
    /** Of each segment a bit for each block: in use now, and at the latest checkpoint. */
    private final int[] usedNow;
    private final int[] usedThen;
    private final int[] ages;
    private final boolean[] taken;
    /** Of each log; it also tells the log's open segment, which always holds it. */
    private final int[] nextBlocks;
    private int takings;

    public SegmentLogs(int s) {
        segments = s < LEAST_SEGMENTS || s > MOST_SEGMENTS ? LEAST_SEGMENTS : s;
        usedNow = new int[segments];
        usedThen = new int[segments];
        ages = new int[segments];
        taken = new boolean[segments];
        nextBlocks = new int[LOGS];
        takings = 0;
        for (int log = 0; log < LOGS; log++) {
            nextBlocks[log] = firstBlockOf(log);
            taken[log] = true;
        }
    }

    public int take(int log) throws IllegalArgumentException, IllegalStateException {
        if (!isLog(log)) {
            throw new IllegalArgumentException("no such log");
        }
        int block = nextBlocks[log];
        int after = blockAfter(block);
        if (after == NONE) {
            throw new IllegalStateException("no free segment to open");
        }
        putInUse(block);
        moveLog(log, after);
        return block;
    }

    public int next(int log) throws IllegalArgumentException {
        if (!isLog(log)) {
            throw new IllegalArgumentException("no such log");
        }
        return nextBlocks[log];
    }

    public void drop(int block) throws IllegalArgumentException, IllegalStateException {
        int segment = segmentOf(block);
        if (segment == NONE) {
            throw new IllegalArgumentException("no such block");
        }
        if ((usedNow[segment] & bitOf(block)) == 0) {
            throw new IllegalStateException("the block is not in use");
        }
        usedNow[segment] &= ~bitOf(block);
    }

    public boolean isUsed(int block) throws IllegalArgumentException {
        int segment = segmentOf(block);
        if (segment == NONE) {
            throw new IllegalArgumentException("no such block");
        }
        return (usedNow[segment] & bitOf(block)) != 0;
    }

    public int checkpoint() {
        for (int segment = 0; segment < segments; segment++) {
            usedThen[segment] = usedNow[segment];
            taken[segment] = false;
        }
        for (int log = 0; log < LOGS; log++) {
            markTaken(segmentOf(nextBlocks[log]));
        }
        return free();
    }

    public int free() {
        int count = 0;
        for (int segment = 0; segment < segments; segment++) {
            if (isFree(segment)) {
                count++;
            }
        }
        return count;
    }

    public int used() {
        int count = 0;
        for (int segment = 0; segment < segments; segment++) {
            count += Integer.bitCount(usedNow[segment]);
        }
        return count;
    }

    public int victim(boolean gently) {
        int best = NONE;
        int bestWorth = 0;
        for (int segment = 0; segment < segments; segment++) {
            int inUse = Integer.bitCount(usedNow[segment]);
            if (taken[segment] || inUse < 1 || inUse >= BLOCKS) {
                continue;
            }
            int worth = gently ? gentleWorth(inUse, ages[segment]) : BLOCKS - inUse;
            // A gentle worth may be 0, so the first candidate counts whatever its worth.
            if (best == NONE || worth > bestWorth) {
                best = segment;
                bestWorth = worth;
            }
        }
        return best;
    }

    public int look(int segment, int what) throws IllegalArgumentException {
        if (!isSegment(segment)) {
            throw new IllegalArgumentException("no such segment");
        }
        switch (what) {
            case LOOK_USED_NOW:
                return usedNow[segment];
            case LOOK_USED_THEN:
                return usedThen[segment];
            case LOOK_AGE:
                return ages[segment];
            case LOOK_TAKEN:
                return taken[segment] ? 1 : 0;
            default:
                throw new IllegalArgumentException("no such thing to look at");
        }
    }

    private static boolean isLog(int log) {
        return log >= 0 && log < LOGS;
    }

    private boolean isSegment(int segment) {
        return segment >= 0 && segment < segments;
    }

    private static int firstBlockOf(int segment) {
        return FIRST_BLOCK + BLOCKS * segment;
    }

    /** NONE when there is no such block. */
    private int segmentOf(int block) {
        if (block < FIRST_BLOCK || block >= firstBlockOf(segments)) {
            return NONE;
        }
        return (block - FIRST_BLOCK) / BLOCKS;
    }

    private static int placeOf(int block) {
        return (block - FIRST_BLOCK) % BLOCKS;
    }

    private static int bitOf(int block) {
        return 1 << placeOf(block);
    }

    private boolean isFree(int segment) {
        return isSegment(segment) && usedNow[segment] == 0 && usedThen[segment] == 0 && !taken[segment];
    }

    private int lowestFree() {
        for (int segment = 0; segment < segments; segment++) {
            if (isFree(segment)) {
                return segment;
            }
        }
        return NONE;
    }

    /** The block that a log takes after this one; NONE when it would have to open a segment and none is free. */
    private int blockAfter(int block) {
        if (placeOf(block) < BLOCKS - 1) {
            return block + 1;
        }
        int opened = lowestFree();
        return opened == NONE ? NONE : firstBlockOf(opened);
    }

    private void putInUse(int block) {
        int segment = segmentOf(block);
        if (segment == NONE) {
            return;
        }
        takings++;
        usedNow[segment] |= bitOf(block);
        ages[segment] = takings;
    }

    /** The segment that is left stays taken: a block of it was taken since the checkpoint. */
    private void moveLog(int log, int block) {
        if (isLog(log)) {
            nextBlocks[log] = block;
            markTaken(segmentOf(block));
        }
    }

    private void markTaken(int segment) {
        if (isSegment(segment)) {
            taken[segment] = true;
        }
    }

    /** For 1 .. 15 blocks in use. */
    private int gentleWorth(int inUse, int age) {
        return (BLOCKS - inUse) * (takings - age + 1) / (inUse + BLOCKS);
    }
}
