import java.util.Arrays;

/**
 * Runs of calls, the same each time, on a kernel and on Model: each answer must agree, and at the end of the shorter
 * runs all that is visible. A kernel gets no more than 512 calls.
 */
public final class ModelTest {
    private static final int RUNS = 12000;
    private static final int MOST_CALLS = 512;
    private static final int CALLS_OF_VISIBLE = 254;
    private static final Check check = new Check();
    private static long seed = 20261119L;

    /** A call's arguments; place 0 says which call. */
    private static final int[] call = new int[7];
    private static int threads;
    private static int addresses;

    public static void main(String[] args) {
        for (int run = 0; run < RUNS; run++) {
            // Few threads and addresses make them meet; many make long chains.
            threads = 2 + next(7);
            addresses = 1 + next(run % 2 == 0 ? 4 : 16);
            if (!agrees(run)) {
                break;
            }
        }
        check.end("ModelTest");
    }

    private static boolean agrees(int run) {
        FutexKernel kernel = new FutexKernel();
        Model model = new Model();
        boolean whole = run % 8 == 0;
        int calls = whole ? MOST_CALLS : 1 + next(MOST_CALLS - CALLS_OF_VISIBLE);
        for (int count = 0; count < calls; count++) {
            choose(model);
            String got = answer(() -> ofKernel(kernel));
            String want = answer(() -> ofModel(model));
            check.due("run " + run + ", call " + count + ": " + Arrays.toString(call), got, want);
            if (!got.equals(want)) {
                return false;
            }
        }
        if (!whole) {
            check.due("run " + run + ", after " + calls + " calls", Visible.of(kernel), model.visible());
        }
        return true;
    }

    private interface Answer {
        long get();
    }

    private static String answer(Answer call) {
        try {
            return String.valueOf(call.get());
        } catch (RuntimeException e) {
            return e.getClass().getName();
        }
    }

    private static long ofKernel(FutexKernel kernel) {
        int[] c = call;
        switch (c[0]) {
            case 0: return kernel.store(c[1], c[2], c[3]);
            case 1: return kernel.compareAndSet(c[1], c[2], c[3], c[4]) ? 1 : 0;
            case 2: return kernel.fetchAdd(c[1], c[2], c[3]);
            case 3: return kernel.await(c[1], c[2], c[3], c[4], c[5]) ? 1 : 0;
            case 4: return kernel.wake(c[1], c[2], c[3], c[4]);
            case 5: return kernel.requeue(c[1], c[2], c[3], c[4], c[5], c[6]);
            case 6: return kernel.lock(c[1], c[2], c[3]);
            case 7: return kernel.unlock(c[1], c[2]);
            case 8: kernel.interrupt(c[1]); return 0;
            case 9: return kernel.exit(c[1]);
            case 10: kernel.start(c[1]); return 0;
            case 11: return kernel.setPriority(c[1], c[2]);
            case 12: return kernel.tick(c[1]);
            case 13: return kernel.word(c[2]);
            case 14: return kernel.locks(c[1]);
            case 15: return kernel.lockAt(c[1], c[3]);
            case 16: return kernel.blockedBy(c[1]);
            case 17: return kernel.now();
            case 18: return kernel.nextTimeout();
            case 19: return kernel.stateOf(c[1]);
            case 20: return kernel.addressOf(c[1]);
            case 21: return kernel.resultOf(c[1]);
            case 22: return kernel.serialOf(c[1]);
            case 23: return kernel.waiters(c[2]);
            case 24: return kernel.waiterAt(c[2], c[3]);
            default: return kernel.queueAt(c[3], c[4]);
        }
    }

    private static long ofModel(Model model) {
        int[] c = call;
        switch (c[0]) {
            case 0: return model.store(c[1], c[2], c[3]);
            case 1: return model.compareAndSet(c[1], c[2], c[3], c[4]) ? 1 : 0;
            case 2: return model.fetchAdd(c[1], c[2], c[3]);
            case 3: return model.await(c[1], c[2], c[3], c[4], c[5]) ? 1 : 0;
            case 4: return model.wake(c[1], c[2], c[3], c[4]);
            case 5: return model.requeue(c[1], c[2], c[3], c[4], c[5], c[6]);
            case 6: return model.lock(c[1], c[2], c[3]);
            case 7: return model.unlock(c[1], c[2]);
            case 8: model.interrupt(c[1]); return 0;
            case 9: return model.exit(c[1]);
            case 10: model.start(c[1]); return 0;
            case 11: return model.setPriority(c[1], c[2]);
            case 12: return model.tick(c[1]);
            case 13: return model.word(c[2]);
            case 14: return model.locks(c[1]);
            case 15: return model.lockAt(c[1], c[3]);
            case 16: return model.blockedBy(c[1]);
            case 17: return model.now();
            case 18: return model.nextTimeout();
            case 19: return model.stateOf(c[1]);
            case 20: return model.addressOf(c[1]);
            case 21: return model.resultOf(c[1]);
            case 22: return model.serialOf(c[1]);
            case 23: return model.waiters(c[2]);
            case 24: return model.waiterAt(c[2], c[3]);
            default: return model.queueAt(c[3], c[4]);
        }
    }

    /** Which call comes, and how often of two hundred. */
    private static final int[][] SHARES = {
        {0, 8}, {1, 4}, {2, 4}, {3, 28}, {4, 8}, {5, 12}, {6, 38}, {7, 15}, {8, 4}, {9, 4}, {10, 6}, {11, 8}, {12, 9},
        {13, 4}, {14, 2}, {15, 4}, {16, 5}, {17, 1}, {18, 4}, {19, 3}, {20, 3}, {21, 5}, {22, 5}, {23, 3}, {24, 6},
        {25, 7}};

    private static void choose(Model model) {
        int share = next(200);
        int row = 0;
        while (share >= SHARES[row][1]) {
            share -= SHARES[row][1];
            row++;
        }
        call[0] = SHARES[row][0];
        call[1] = thread();
        call[2] = address();
        int word = call[2] >= 0 && call[2] < 16 ? model.word(call[2]) : 0;
        switch (call[0]) {
            case 0: arguments(value(), 0, 0, 0); break;
            case 1: arguments(next(2) == 0 ? word : value(), value(), 0, 0); break;
            case 2: arguments(value(), 0, 0, 0); break;
            case 3: arguments(next(9) == 0 ? value() : word, from(1, 255), timeout(), 0); break;
            case 4: arguments(from(1, 8), next(2) == 0 ? 255 : from(1, 255), 0, 0); break;
            case 5: arguments(next(9) == 0 ? value() : word, from(0, next(8)), address(), from(0, 8)); break;
            case 6: arguments(timeout(), 0, 0, 0); break;
            case 7: chooseOwner(word); break;
            case 11: call[2] = from(0, 1 + next(9)); break;
            case 12: call[1] = next(3) == 0 ? from(1, 1000) : from(1, 5); break;
            case 15: call[3] = from(0, next(4)); break;
            case 24: call[3] = from(0, next(4)); break;
            case 25: arguments(from(0, 3), from(0, next(8)), 0, 0); break;
            default: break;
        }
    }

    private static void arguments(int third, int fourth, int fifth, int sixth) {
        call[3] = third;
        call[4] = fourth;
        call[5] = fifth;
        call[6] = sixth;
    }

    private static void chooseOwner(int word) {
        if (next(8) != 0 && (word & 255) != 0) {
            call[1] = (word & 255) - 1;
        }
    }

    private static int thread() {
        return from(0, threads - 1);
    }

    private static int address() {
        return from(0, addresses - 1);
    }

    private static int timeout() {
        return next(3) == 0 ? 0 : next(9) == 0 ? from(0, 10000) : from(0, 9);
    }

    private static int value() {
        int marks = next(4) << 30;
        return next(6) == 0 ? next(1 << 16) | next(1 << 16) << 16 : marks | next(11);
    }

    /** A number of the range; now and then one at its ends, or outside. */
    private static int from(int least, int greatest) {
        int[] ends = {least, greatest, least - 1, greatest + 1, -1, Integer.MIN_VALUE, Integer.MAX_VALUE};
        return next(60) == 0 ? ends[next(ends.length)] : least + next(greatest - least + 1);
    }

    private static int next(int bound) {
        seed = seed * 6364136223846793005L + 1442695040888963407L;
        return (int) ((seed >>> 33) % bound);
    }
}
