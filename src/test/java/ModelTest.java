import java.util.Random;
import java.util.function.Supplier;

/** Runs of 512 calls, the same at every start, each answer against that of the Model. */
public final class ModelTest {
    private static final int RUNS = 400;
    private static final int CALLS = 512;
    private static final int[] ODD = {
        -1, 0, 6, 12, 95, 96, 288, 2144, Integer.MIN_VALUE, Integer.MAX_VALUE, 1 << 28, -96,
    };

    public static void main(String[] args) {
        for (int run = 0; run < RUNS; run++) {
            if (!agrees(run)) {
                System.exit(1);
            }
        }
    }

    private static boolean agrees(int run) {
        Random random = new Random(run);
        int asked = run % 4 == 0 ? 12 + random.nextInt(117) : run % 4 == 1 ? ODD[random.nextInt(ODD.length)] : 12 + random.nextInt(4);
        SegmentLogs logs = new SegmentLogs(asked);
        Model model = new Model(asked);
        int logsUsed = 1 + random.nextInt(6);
        int dropping = random.nextInt(60);
        int checkpoints = random.nextInt(8);
        int called = 0;
        while (called < CALLS) {
            int kind = random.nextInt(100);
            int log = odd(random) ? ODD[random.nextInt(ODD.length)] : random.nextInt(logsUsed);
            int block = odd(random) ? ODD[random.nextInt(ODD.length)] : 96 + random.nextInt(16 * model.segments());
            int segment = odd(random) ? ODD[random.nextInt(ODD.length)] : random.nextInt(model.segments());
            int what = odd(random) ? ODD[random.nextInt(ODD.length)] : random.nextInt(4);
            boolean gently = random.nextBoolean();
            // Whole segments are dropped too: single blocks alone would hardly ever empty one.
            if (random.nextInt(100) * 10 < dropping) {
                int first = 96 + 16 * random.nextInt(model.segments());
                int count = 10 + random.nextInt(7);
                for (int k = 0; k < count && called < CALLS; k++, called++) {
                    int one = first + k;
                    if (!same(run, called, "drop(" + one + ")", () -> done(() -> logs.drop(one)), () -> done(() -> model.drop(one)))) {
                        return false;
                    }
                }
                continue;
            }
            boolean right;
            if (kind < checkpoints) {
                right = same(run, called, "checkpoint()", logs::checkpoint, model::checkpoint);
            } else if (kind < 60) {
                right = same(run, called, "take(" + log + ")", () -> logs.take(log), () -> model.take(log));
            } else if (kind < 65) {
                right = same(run, called, "next(" + log + ")", () -> logs.next(log), () -> model.next(log));
            } else if (kind < 70) {
                right = same(run, called, "drop(" + block + ")", () -> done(() -> logs.drop(block)), () -> done(() -> model.drop(block)));
            } else if (kind < 75) {
                right = same(run, called, "isUsed(" + block + ")", () -> logs.isUsed(block), () -> model.isUsed(block));
            } else if (kind < 80) {
                right = same(run, called, "free()", logs::free, model::free);
            } else if (kind < 84) {
                right = same(run, called, "used()", logs::used, model::used);
            } else if (kind < 92) {
                right = same(run, called, "victim(" + gently + ")", () -> logs.victim(gently), () -> model.victim(gently));
            } else {
                right = same(run, called, "look(" + segment + ", " + what + ")", () -> logs.look(segment, what), () -> model.look(segment, what));
            }
            called++;
            if (!right) {
                return false;
            }
        }
        return true;
    }

    private static boolean odd(Random random) {
        return random.nextInt(20) == 0;
    }

    private static Object done(Runnable body) {
        body.run();
        return "done";
    }

    private static boolean same(int run, int called, String call, Supplier<Object> got, Supplier<Object> due) {
        String is = answer(got);
        String should = answer(due);
        if (!is.equals(should)) {
            System.out.println("model, run " + run + ", call " + called + ": " + call + " answered " + is + ", due is " + should);
        }
        return is.equals(should);
    }

    private static String answer(Supplier<Object> body) {
        try {
            return body.get().toString();
        } catch (RuntimeException e) {
            return "throws " + e.getClass().getSimpleName();
        }
    }
}
