/**
 * Every call, with every mixture of arguments in range and out of range and of threads in each state: it throws what
 * its @throws lines name first, and changes nothing then; if none applies, it throws nothing.
 */
public final class RefusalsTest {
    private static final int LEAST = Integer.MIN_VALUE, GREATEST = Integer.MAX_VALUE;
    private static final String PLACE = IndexOutOfBoundsException.class.getName();
    private static final String ARGUMENT = IllegalArgumentException.class.getName();
    private static final String STATE = IllegalStateException.class.getName();
    private static final String NOTHING = "nothing";

    private static final int[] THREAD_VALUES = {LEAST, -1, 0, 1, 2, 3, 4, 5, 6, 7, 8, GREATEST};
    private static final int[] ADDRESS_VALUES = {LEAST, -1, 0, Kernels.LOCKED, Kernels.LAST, 16, GREATEST};
    private static final int[] WORD_VALUES = {0, 1, LEAST, GREATEST};
    private static final int[] PLACE_VALUES = {LEAST, -1, 0, 1, 2, 7, 8, 15, 16, GREATEST};

    private static final Check check = new Check();
    private static final String VISIBLE = Visible.nowAndLater(Kernels::everyState);

    /** The call under test, with its arguments. */
    private interface Use {
        void on(FutexKernel kernel, int[] arguments);
    }

    /** What the document says that the call throws on Kernels.everyState. */
    private interface Due {
        String of(int[] arguments);
    }

    public static void main(String[] args) {
        words();
        waits();
        locks();
        threads();
        queries();
        check.end("RefusalsTest");
    }

    private static void words() {
        sweep("2 store", new int[][] {THREAD_VALUES, ADDRESS_VALUES, WORD_VALUES},
                (k, a) -> k.store(a[0], a[1], a[2]),
                a -> first(thread(a[0]) && address(a[1]), true, running(a[0])));
        sweep("3 compareAndSet", new int[][] {THREAD_VALUES, ADDRESS_VALUES, WORD_VALUES, WORD_VALUES},
                (k, a) -> k.compareAndSet(a[0], a[1], a[2], a[3]),
                a -> first(thread(a[0]) && address(a[1]), true, running(a[0])));
        sweep("4 fetchAdd", new int[][] {THREAD_VALUES, ADDRESS_VALUES, WORD_VALUES},
                (k, a) -> k.fetchAdd(a[0], a[1], a[2]),
                a -> first(thread(a[0]) && address(a[1]), true, running(a[0])));
        sweep("5 word", new int[][] {ADDRESS_VALUES},
                (k, a) -> k.word(a[0]),
                a -> first(address(a[0]), true, true));
    }

    private static void waits() {
        sweep("6 await", new int[][] {THREAD_VALUES, ADDRESS_VALUES, {0, 1}, around(1, 255), around(0, 10000)},
                (k, a) -> k.await(a[0], a[1], a[2], a[3], a[4]),
                a -> first(thread(a[0]) && address(a[1]), within(a[3], 1, 255) && within(a[4], 0, 10000),
                        running(a[0])));
        sweep("7 wake", new int[][] {THREAD_VALUES, ADDRESS_VALUES, around(1, 8), around(1, 255)},
                (k, a) -> k.wake(a[0], a[1], a[2], a[3]),
                a -> first(thread(a[0]) && address(a[1]), within(a[2], 1, 8) && within(a[3], 1, 255),
                        running(a[0])));
        int[] someThreads = {-1, 0, 1, 2, 3, 8};
        int[] someAddresses = {-1, 0, Kernels.FULL, 15, 16};
        sweep("8 requeue", new int[][] {someThreads, someAddresses, {0, 1}, around(0, 8), someAddresses, around(0, 8)},
                (k, a) -> k.requeue(a[0], a[1], a[2], a[3], a[4], a[5]),
                a -> first(thread(a[0]) && address(a[1]) && address(a[4]),
                        a[1] != a[4] && within(a[3], 0, 8) && within(a[5], 0, 8), running(a[0])));
    }

    private static void locks() {
        sweep("9 lock", new int[][] {THREAD_VALUES, ADDRESS_VALUES, around(0, 10000)},
                (k, a) -> k.lock(a[0], a[1], a[2]),
                a -> first(thread(a[0]) && address(a[1]), within(a[2], 0, 10000), running(a[0])));
        // Of the threads in everyState that the words 4, 11 and 12 name, only 0 is RUNNING, the owner of 4 and 11.
        int[] addresses = {LEAST, -1, 0, 4, Kernels.LOCKED, 12, Kernels.LAST, 16, GREATEST};
        sweep("10 unlock", new int[][] {THREAD_VALUES, addresses},
                (k, a) -> k.unlock(a[0], a[1]),
                a -> first(thread(a[0]) && address(a[1]), true,
                        a[0] == 0 && (a[1] == 4 || a[1] == Kernels.LOCKED)));
        sweep("11 locks", new int[][] {THREAD_VALUES},
                (k, a) -> k.locks(a[0]),
                a -> first(thread(a[0]), true, true));
        sweep("12 lockAt", new int[][] {THREAD_VALUES, PLACE_VALUES},
                (k, a) -> k.lockAt(a[0], a[1]),
                a -> first(thread(a[0]) && a[0] == 0 && within(a[1], 0, 1), true, true));
        sweep("13 blockedBy", new int[][] {THREAD_VALUES},
                (k, a) -> k.blockedBy(a[0]),
                a -> first(thread(a[0]), true, true));
    }

    private static void threads() {
        sweep("14 interrupt", new int[][] {THREAD_VALUES},
                (k, a) -> k.interrupt(a[0]),
                a -> first(thread(a[0]), true, is(a[0], FutexKernel.WAITING) || is(a[0], FutexKernel.LOCKING)));
        sweep("15 exit", new int[][] {THREAD_VALUES},
                (k, a) -> k.exit(a[0]),
                a -> first(thread(a[0]), true, !is(a[0], FutexKernel.DEAD)));
        sweep("16 start", new int[][] {THREAD_VALUES},
                (k, a) -> k.start(a[0]),
                a -> first(thread(a[0]), true, is(a[0], FutexKernel.DEAD)));
        sweep("17 setPriority", new int[][] {THREAD_VALUES, around(0, 9)},
                (k, a) -> k.setPriority(a[0], a[1]),
                a -> first(thread(a[0]), within(a[1], 0, 9), !is(a[0], FutexKernel.DEAD)));
        sweep("18 tick", new int[][] {around(1, 1000)},
                (k, a) -> k.tick(a[0]),
                a -> first(true, within(a[0], 1, 1000), true));
        sweep("19 now", new int[][] {},
                (k, a) -> k.now(),
                a -> NOTHING);
        sweep("20 nextTimeout", new int[][] {},
                (k, a) -> k.nextTimeout(),
                a -> NOTHING);
    }

    private static void queries() {
        sweep("21 stateOf", new int[][] {THREAD_VALUES},
                (k, a) -> k.stateOf(a[0]),
                a -> first(thread(a[0]), true, true));
        sweep("22 addressOf", new int[][] {THREAD_VALUES},
                (k, a) -> k.addressOf(a[0]),
                a -> first(thread(a[0]), true, true));
        sweep("23 resultOf", new int[][] {THREAD_VALUES},
                (k, a) -> k.resultOf(a[0]),
                a -> first(thread(a[0]), true, true));
        sweep("24 serialOf", new int[][] {THREAD_VALUES},
                (k, a) -> k.serialOf(a[0]),
                a -> first(thread(a[0]), true, true));
        sweep("25 waiters", new int[][] {ADDRESS_VALUES},
                (k, a) -> k.waiters(a[0]),
                a -> first(address(a[0]), true, true));
        sweep("26 waiterAt", new int[][] {ADDRESS_VALUES, PLACE_VALUES},
                (k, a) -> k.waiterAt(a[0], a[1]),
                a -> first(a[0] == Kernels.LOCKED && within(a[1], 0, 1) || a[0] == Kernels.LAST && a[1] == 0,
                        true, true));
        sweep("27 queueAt", new int[][] {around(0, 3), PLACE_VALUES},
                (k, a) -> k.queueAt(a[0], a[1]),
                a -> first(within(a[0], 0, 3) && a[1] >= 0, true, true));
    }

    /** The first exception of the three whose condition does not hold; no call names them in another order. */
    private static String first(boolean places, boolean arguments, boolean state) {
        return !places ? PLACE : !arguments ? ARGUMENT : !state ? STATE : NOTHING;
    }

    private static boolean within(int value, int least, int greatest) {
        return value >= least && value <= greatest;
    }

    private static boolean thread(int thread) {
        return within(thread, 0, 7);
    }

    private static boolean address(int address) {
        return within(address, 0, 15);
    }

    private static boolean is(int thread, int state) {
        return thread(thread) && Kernels.STATES[thread] == state;
    }

    private static boolean running(int thread) {
        return is(thread, FutexKernel.RUNNING);
    }

    /** The ends of a range, their neighbours within and without, and what lies far off. */
    private static int[] around(int least, int greatest) {
        return new int[] {LEAST, -1000, least - 1, least, least + 1, greatest - 1, greatest, greatest + 1, GREATEST};
    }

    /** Tries every mixture of the values, one of each row. */
    private static void sweep(String name, int[][] values, Use use, Due due) {
        check.sentence(name, "if several exceptions apply, the one that its @throws lines name first is thrown");
        int mixtures = 1;
        for (int[] row : values) {
            mixtures *= row.length;
        }
        for (int mixture = 0; mixture < mixtures; mixture++) {
            int[] arguments = new int[values.length];
            int rest = mixture;
            for (int place = 0; place < values.length; place++) {
                arguments[place] = values[place][rest % values[place].length];
                rest /= values[place].length;
            }
            tryOne(arguments, use, due.of(arguments));
        }
    }

    private static void tryOne(int[] arguments, Use use, String want) {
        String what = java.util.Arrays.toString(arguments);
        Check.Call call = kernel -> use.on(kernel, arguments);
        check.due(what, Check.thrownBy(call, Kernels.everyState()), want);
        if (!want.equals(NOTHING)) {
            check.unchanged(what, Kernels::everyState, call, VISIBLE);
        }
    }
}
