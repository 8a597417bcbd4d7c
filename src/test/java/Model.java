import java.util.ArrayList;
import java.util.HashSet;
import java.util.List;
import java.util.Set;

/** The document told once more, by what has happened and by sets of blocks, so that it shares no slip with the class. */
final class Model {
    private final int s;
    private final List<Integer> takings = new ArrayList<>();
    private final Set<Integer> used = new HashSet<>();
    private Set<Integer> usedThen = new HashSet<>();
    /** Segments that a block was taken of, or that were opened, since the checkpoint. */
    private final Set<Integer> touched = new HashSet<>();
    private final int[] open = {0, 1, 2, 3, 4, 5};
    private final int[] written = new int[6];

    Model(int asked) {
        s = asked >= 12 && asked <= 128 ? asked : 12;
    }

    int segments() {
        return s;
    }

    int take(int log) {
        logOrThrow(log);
        int block = next(log);
        if (written[log] == 15) {
            List<Integer> free = freeOnes();
            if (free.isEmpty()) {
                throw new IllegalStateException();
            }
            touched.add(open[log]);
            open[log] = free.get(0);
            written[log] = 0;
        } else {
            written[log]++;
        }
        touched.add((block - 96) / 16);
        touched.add(open[log]);
        used.add(block);
        takings.add(block);
        return block;
    }

    int next(int log) {
        logOrThrow(log);
        return 96 + 16 * open[log] + written[log];
    }

    void drop(int block) {
        blockOrThrow(block);
        if (!used.remove(block)) {
            throw new IllegalStateException();
        }
    }

    boolean isUsed(int block) {
        blockOrThrow(block);
        return used.contains(block);
    }

    int checkpoint() {
        usedThen = new HashSet<>(used);
        touched.clear();
        return free();
    }

    int free() {
        return freeOnes().size();
    }

    int used() {
        return used.size();
    }

    int victim(boolean gently) {
        int best = -1;
        for (int segment = s - 1; segment >= 0; segment--) {
            int inUse = Integer.bitCount(bits(used, segment));
            if (!isTaken(segment) && inUse >= 1 && inUse <= 15 && (best < 0 || worth(segment, gently) >= worth(best, gently))) {
                best = segment;
            }
        }
        return best;
    }

    int look(int segment, int what) {
        if (segment < 0 || segment >= s || what < 0 || what > 3) {
            throw new IllegalArgumentException();
        }
        return what == 0 ? bits(used, segment) : what == 1 ? bits(usedThen, segment)
            : what == 2 ? age(segment) : isTaken(segment) ? 1 : 0;
    }

    private long worth(int segment, boolean gently) {
        int inUse = Integer.bitCount(bits(used, segment));
        double since = takings.size() - age(segment) + 1;
        return gently ? (long) Math.floor((16 - inUse) * since / (inUse + 16)) : 16 - inUse;
    }

    private int age(int segment) {
        for (int number = takings.size(); number >= 1; number--) {
            if ((takings.get(number - 1) - 96) / 16 == segment) {
                return number;
            }
        }
        return 0;
    }

    private boolean isTaken(int segment) {
        boolean taken = touched.contains(segment);
        for (int one : open) {
            taken |= one == segment;
        }
        return taken;
    }

    private List<Integer> freeOnes() {
        List<Integer> free = new ArrayList<>();
        for (int segment = 0; segment < s; segment++) {
            if (bits(used, segment) == 0 && bits(usedThen, segment) == 0 && !isTaken(segment)) {
                free.add(segment);
            }
        }
        return free;
    }

    private static int bits(Set<Integer> blocks, int segment) {
        int bits = 0;
        for (int k = 0; k < 16; k++) {
            bits |= blocks.contains(96 + 16 * segment + k) ? 1 << k : 0;
        }
        return bits;
    }

    private static void logOrThrow(int log) {
        if (log < 0 || log > 5) {
            throw new IllegalArgumentException();
        }
    }

    private void blockOrThrow(int block) {
        if (block < 96 || block > 95 + 16 * s) {
            throw new IllegalArgumentException();
        }
    }
}
