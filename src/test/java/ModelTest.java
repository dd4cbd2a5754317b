import java.util.Arrays;
import java.util.Random;

/** All promises: long mixed runs of calls, right and wrong ones, are answered as the Model answers them. */
public final class ModelTest {
    private static final String[] NAMES = {"setSpring", "setMill", "setDrought", "setFee", "water", "work",
        "barge", "send", "told", "pound", "lock", "count", "pass", "arrives", "foresee", "advise", "stops",
        "mean", "digest"};
    private static final int RUNS = 300;
    private static final int CALLS = 256;

    public static void main(String[] args) {
        for (int run = 0; run < RUNS; run++) {
            oneRun(run);
        }
        Checks.end();
    }

    private static void oneRun(int run) {
        Random random = new Random(run);
        LockBank x = new LockBank();
        Model m = new Model();
        // Runs differ in how dry they are: else most pounds are full before long.
        int wet = 1 + random.nextInt(30);
        for (int i = 0; i < CALLS; i++) {
            int[] call = anyCall(random, i, wet);
            String name = "run " + run + ", call " + i + ": " + NAMES[call[0]] + Arrays.toString(call);
            Checks.due(name, answer(() -> on(x, call)), answer(() -> m.call(call)));
            Checks.due(name + ", then digest()", x.digest(), m.call(new int[] {18}));
        }
    }

    private interface Answer {
        long get();
    }

    /** An exception counts as a number far from all answers. */
    private static long answer(Answer a) {
        try {
            return a.get();
        } catch (IndexOutOfBoundsException e) {
            return Long.MIN_VALUE + (e.getClass() == IndexOutOfBoundsException.class ? 1 : 9);
        } catch (IllegalArgumentException e) {
            return Long.MIN_VALUE + 2;
        } catch (IllegalStateException e) {
            return Long.MIN_VALUE + 3;
        }
    }

    private static int[] anyCall(Random random, int i, int wet) {
        if (i < 8) {
            return new int[] {0, i, random.nextInt(wet)};
        }
        int[] often = {0, 1, 2, 3, 4, 4, 4, 5, 5, 6, 6, 7, 7, 8, 9, 10, 10, 11, 12, 12, 12, 12, 12, 13, 13, 14, 14,
            15, 15, 16, 16, 17, 18};
        int kind = often[random.nextInt(often.length)];
        switch (kind) {
            case 0: return new int[] {0, about(random, 0, 7), about(random, 0, wet)};
            case 1: return new int[] {1, about(random, -1, 5), about(random, 0, 100)};
            case 2: return new int[] {2, random.nextInt(4) == 0 ? 1 : 0};
            case 3: return new int[] {3, random.nextBoolean() ? about(random, 0, 3) : about(random, 0, 20)};
            case 4: return new int[] {4, about(random, 0, 5), about(random, 1, random.nextBoolean() ? 60 : 8)};
            case 5: return new int[] {5, about(random, 0, 4)};
            case 6: return new int[] {6, about(random, 0, 5), about(random, 0, 5), about(random, 0, 99)};
            case 7: return new int[] {7, about(random, 0, 9), about(random, 0, 5)};
            case 8: return new int[] {8, about(random, 0, 9), about(random, 0, 4)};
            case 9: return new int[] {9, about(random, 0, 5), about(random, 0, 3)};
            case 10: return new int[] {10, about(random, 0, 4), about(random, 0, 4)};
            case 11: return new int[] {11, about(random, 0, 9)};
            case 12: return new int[] {12, about(random, 1, random.nextInt(9) == 0 ? 60 : 3)};
            case 13: return new int[] {13, about(random, 0, 9)};
            case 14: return new int[] {14, about(random, 1, 60), about(random, 2, 6)};
            case 15: return new int[] {15, about(random, 1, 40)};
            default: return new int[] {kind};
        }
    }

    /** Mostly a number of the range, now and then one just outside of it or far away. */
    private static int about(Random random, int least, int greatest) {
        int kind = random.nextInt(60);
        if (kind == 0) {
            return least - 1;
        }
        if (kind == 1) {
            return greatest + 1;
        }
        if (kind == 2) {
            return random.nextInt();
        }
        return least + random.nextInt(greatest - least + 1);
    }

    private static long on(LockBank x, int[] c) {
        switch (c[0]) {
            case 0: return x.setSpring(c[1], c[2]);
            case 1: return x.setMill(c[1], c[2]);
            case 2: return x.setDrought(c[1] == 1) ? 1 : 0;
            case 3: return x.setFee(c[1]);
            case 4: return x.water(c[1], c[2]);
            case 5: return x.work(c[1]) ? 1 : 0;
            case 6: return x.barge(c[1], c[2], c[3]);
            case 7: return x.send(c[1], c[2]);
            case 8: return x.told(c[1], c[2]);
            case 9: return x.pound(c[1], c[2]);
            case 10: return x.lock(c[1], c[2]);
            case 11: return x.count(c[1]);
            case 12: return x.pass(c[1]);
            case 13: return x.arrives(c[1]);
            case 14: return x.foresee(c[1], c[2]);
            case 15: return x.advise(c[1]);
            case 16: return x.stops();
            case 17: return Double.doubleToLongBits(x.mean());
            default: return x.digest();
        }
    }
}
