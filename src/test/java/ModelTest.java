/** Runs of calls, the same each time, on a kernel and on Model: each answer and all that is visible must agree. */
public final class ModelTest {
    private static final int RUNS = 600;
    private static final int CALLS = 512;
    private static final Check check = new Check();
    private static long seed = 20261119L;

    /** A call's arguments; place 0 says which call. */
    private static final int[] call = new int[7];
    private static int threads;
    private static int addresses;

    public static void main(String[] args) {
        for (int run = 0; run < RUNS; run++) {
            // Few threads and addresses make them meet; many make long chains.
            threads = 2 + next(7);
            addresses = 1 + next(run % 2 == 0 ? 4 : 16);
            if (!agrees(run)) {
                break;
            }
        }
        check.end("ModelTest");
    }

    private static boolean agrees(int run) {
        FutexKernel kernel = new FutexKernel();
        Model model = new Model();
        for (int count = 0; count < CALLS; count++) {
            choose(kernel);
            String what = "run " + run + ", call " + count + ": " + java.util.Arrays.toString(call);
            String got = answer(() -> ofKernel(kernel)) + "; " + Visible.of(kernel);
            String want = answer(() -> ofModel(model)) + "; " + model.visible();
            check.due(what, got, want);
            if (!got.equals(want)) {
                return false;
            }
        }
        return true;
    }

    private interface Answer {
        long get();
    }

    private static String answer(Answer call) {
        try {
            return String.valueOf(call.get());
        } catch (RuntimeException e) {
            return e.getClass().getName();
        }
    }

    private static long ofKernel(FutexKernel kernel) {
        int[] c = call;
        switch (c[0]) {
            case 0: return kernel.store(c[1], c[2], c[3]);
            case 1: return kernel.compareAndSet(c[1], c[2], c[3], c[4]) ? 1 : 0;
            case 2: return kernel.fetchAdd(c[1], c[2], c[3]);
            case 3: return kernel.await(c[1], c[2], c[3], c[4], c[5]) ? 1 : 0;
            case 4: return kernel.wake(c[1], c[2], c[3], c[4]);
            case 5: return kernel.requeue(c[1], c[2], c[3], c[4], c[5], c[6]);
            case 6: return kernel.lock(c[1], c[2], c[3]);
            case 7: return kernel.unlock(c[1], c[2]);
            case 8: kernel.interrupt(c[1]); return 0;
            case 9: return kernel.exit(c[1]);
            case 10: kernel.start(c[1]); return 0;
            case 11: return kernel.setPriority(c[1], c[2]);
            default: return kernel.tick(c[1]);
        }
    }

    private static long ofModel(Model model) {
        int[] c = call;
        switch (c[0]) {
            case 0: return model.store(c[1], c[2], c[3]);
            case 1: return model.compareAndSet(c[1], c[2], c[3], c[4]) ? 1 : 0;
            case 2: return model.fetchAdd(c[1], c[2], c[3]);
            case 3: return model.await(c[1], c[2], c[3], c[4], c[5]) ? 1 : 0;
            case 4: return model.wake(c[1], c[2], c[3], c[4]);
            case 5: return model.requeue(c[1], c[2], c[3], c[4], c[5], c[6]);
            case 6: return model.lock(c[1], c[2], c[3]);
            case 7: return model.unlock(c[1], c[2]);
            case 8: model.interrupt(c[1]); return 0;
            case 9: return model.exit(c[1]);
            case 10: model.start(c[1]); return 0;
            case 11: return model.setPriority(c[1], c[2]);
            default: return model.tick(c[1]);
        }
    }

    /** Which call comes, and how often of a hundred. */
    private static final int[][] SHARES = {
        {0, 5}, {1, 2}, {2, 2}, {3, 20}, {4, 6}, {5, 8}, {6, 26}, {7, 10}, {8, 3}, {9, 3}, {10, 4}, {11, 5}, {12, 6}};

    private static void choose(FutexKernel kernel) {
        int share = next(100);
        int row = 0;
        while (share >= SHARES[row][1]) {
            share -= SHARES[row][1];
            row++;
        }
        call[0] = SHARES[row][0];
        call[1] = thread();
        call[2] = address();
        int word = call[2] >= 0 && call[2] < 16 ? kernel.word(call[2]) : 0;
        switch (call[0]) {
            case 0: arguments(value(), 0, 0, 0); break;
            case 1: arguments(next(2) == 0 ? word : value(), value(), 0, 0); break;
            case 2: arguments(value(), 0, 0, 0); break;
            case 3: arguments(next(9) == 0 ? value() : word, from(1, 255), timeout(), 0); break;
            case 4: arguments(from(1, 8), next(2) == 0 ? 255 : from(1, 255), 0, 0); break;
            case 5: arguments(next(9) == 0 ? value() : word, from(0, next(8)), address(), from(0, 8)); break;
            case 6: arguments(timeout(), 0, 0, 0); break;
            case 7: chooseOwner(word); break;
            case 11: call[2] = from(0, 1 + next(9)); break;
            case 12: call[1] = next(3) == 0 ? from(1, 1000) : from(1, 5); break;
            default: break;
        }
    }

    private static void arguments(int third, int fourth, int fifth, int sixth) {
        call[3] = third;
        call[4] = fourth;
        call[5] = fifth;
        call[6] = sixth;
    }

    private static void chooseOwner(int word) {
        if (next(8) != 0 && (word & 255) != 0) {
            call[1] = (word & 255) - 1;
        }
    }

    private static int thread() {
        return from(0, threads - 1);
    }

    private static int address() {
        return from(0, addresses - 1);
    }

    private static int timeout() {
        return next(3) == 0 ? 0 : next(9) == 0 ? from(0, 10000) : from(0, 9);
    }

    private static int value() {
        int marks = next(4) << 30;
        return next(6) == 0 ? next(1 << 16) | next(1 << 16) << 16 : marks | next(11);
    }

    /** A number of the range; now and then one at its ends, or outside. */
    private static int from(int least, int greatest) {
        int[] ends = {least, greatest, least - 1, greatest + 1, -1, Integer.MIN_VALUE, Integer.MAX_VALUE};
        return next(60) == 0 ? ends[next(ends.length)] : least + next(greatest - least + 1);
    }

    private static int next(int bound) {
        seed = seed * 6364136223846793005L + 1442695040888963407L;
        return (int) ((seed >>> 33) % bound);
    }
}
