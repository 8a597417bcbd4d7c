import java.util.Random;
import java.util.function.Supplier;

/** Runs of 512 calls, the same at every start, each answer against that of the Model. */
public final class ModelTest {
    private static final int RUNS = 400;
    private static final int CALLS = 512;
    private static final int[] ODD = {
        -1, 0, 4, 6, 11, 12, 95, 96, 128, 129, 288, 2144, Integer.MIN_VALUE, Integer.MAX_VALUE, 1 << 28, -96,
    };

    private final int run;
    private final Random random;
    private final SegmentLogs logs;
    private final Model model;
    private final int logsUsed;
    private final int dropping;
    private final int checkpoints;
    private int called = 0;
    private boolean right = true;

    private ModelTest(int run) {
        this.run = run;
        random = new Random(run);
        int asked = run % 4 == 0 ? 12 + random.nextInt(117) : run % 4 == 1 ? anOddOne() : 12 + random.nextInt(4);
        logs = new SegmentLogs(asked);
        model = new Model(asked);
        logsUsed = 1 + random.nextInt(6);
        dropping = random.nextInt(6);
        checkpoints = random.nextInt(8);
    }

    public static void main(String[] args) {
        for (int run = 0; run < RUNS; run++) {
            if (!new ModelTest(run).agrees()) {
                System.exit(1);
            }
        }
    }

    private boolean agrees() {
        while (right && called < CALLS) {
            // Whole segments are dropped too: single blocks alone would hardly ever empty one.
            if (random.nextInt(100) < dropping) {
                dropMostOfASegment();
            } else {
                callOne(random.nextInt(100));
            }
        }
        return right;
    }

    private void dropMostOfASegment() {
        int first = 96 + 16 * random.nextInt(model.segments());
        int count = 10 + random.nextInt(7);
        for (int k = 0; right && k < count && called < CALLS; k++) {
            dropOne(first + k);
        }
    }

    private void callOne(int kind) {
        int log = oddOr(random.nextInt(logsUsed));
        int block = oddOr(96 + random.nextInt(16 * model.segments()));
        int segment = oddOr(random.nextInt(model.segments()));
        int what = oddOr(random.nextInt(4));
        boolean gently = random.nextBoolean();
        if (kind < checkpoints) {
            same("checkpoint()", logs::checkpoint, model::checkpoint);
        } else if (kind < 60) {
            same("take(" + log + ")", () -> logs.take(log), () -> model.take(log));
        } else if (kind < 65) {
            same("next(" + log + ")", () -> logs.next(log), () -> model.next(log));
        } else if (kind < 70) {
            dropOne(block);
        } else if (kind < 75) {
            same("isUsed(" + block + ")", () -> logs.isUsed(block), () -> model.isUsed(block));
        } else if (kind < 80) {
            same("free()", logs::free, model::free);
        } else if (kind < 84) {
            same("used()", logs::used, model::used);
        } else if (kind < 92) {
            same("victim(" + gently + ")", () -> logs.victim(gently), () -> model.victim(gently));
        } else {
            same("look(" + segment + ", " + what + ")", () -> logs.look(segment, what), () -> model.look(segment, what));
        }
    }

    private void dropOne(int block) {
        same("drop(" + block + ")", () -> done(() -> logs.drop(block)), () -> done(() -> model.drop(block)));
    }

    private int anOddOne() {
        return ODD[random.nextInt(ODD.length)];
    }

    private int oddOr(int plain) {
        return random.nextInt(20) == 0 ? anOddOne() : plain;
    }

    private void same(String call, Supplier<Object> got, Supplier<Object> due) {
        called++;
        String is = answer(got);
        String should = answer(due);
        if (!is.equals(should)) {
            right = false;
            System.out.println("model, run " + run + ", call " + called + ": " + call + " answered " + is + ", due is " + should);
        }
    }

    private static Object done(Runnable body) {
        body.run();
        return "done";
    }

    private static String answer(Supplier<Object> body) {
        try {
            return body.get().toString();
        } catch (RuntimeException e) {
            return "throws " + e.getClass().getSimpleName();
        }
    }
}
