/** Promises 1 to 5: a new object, and the words. */
public final class WordsTest {
    private static final Check check = new Check();

    public static void main(String[] args) {
        promise1NewObject();
        promise2Store();
        promise2Refusals();
        promise3CompareAndSet();
        promise3Refusals();
        promise4FetchAdd();
        promise4Refusals();
        promise5Word();
        wordsAreFreeUnderLocks();
        oneOfEachState();
        check.end("WordsTest");
    }

    private static void promise1NewObject() {
        FutexKernel kernel = new FutexKernel();
        for (int address = 0; address < 16; address++) {
            check.due("1 word", kernel.word(address), 0);
            check.due("1 waiters", kernel.waiters(address), 0);
        }
        for (int thread = 0; thread < 8; thread++) {
            check.due("1 stateOf", kernel.stateOf(thread), FutexKernel.RUNNING);
            check.due("1 addressOf", kernel.addressOf(thread), FutexKernel.NONE);
            check.due("1 resultOf", kernel.resultOf(thread), FutexKernel.NONE);
            check.due("1 serialOf", kernel.serialOf(thread), 0);
            check.due("1 locks", kernel.locks(thread), 0);
            check.due("1 setPriority", kernel.setPriority(thread, 0), 0);
        }
        for (int bucket = 0; bucket < 4; bucket++) {
            check.due("1 queueAt", kernel.queueAt(bucket, 0), FutexKernel.NONE);
        }
        check.due("1 now", kernel.now(), 0);
        check.due("1 nextTimeout", kernel.nextTimeout(), FutexKernel.NONE);
        FutexKernel other = new FutexKernel();
        other.store(0, 0, 9);
        other.exit(1);
        check.due("1 objects share no words", kernel.word(0), 0);
        check.due("1 objects share no threads", kernel.stateOf(1), FutexKernel.RUNNING);
    }

    private static void promise2Store() {
        FutexKernel kernel = new FutexKernel();
        check.due("2 store", kernel.store(0, 0, 5), 0);
        check.due("2 store again", kernel.store(7, 0, Integer.MIN_VALUE), 5);
        check.due("2 store the last address", kernel.store(0, 15, -1), 0);
        check.due("2 word", kernel.word(0), Integer.MIN_VALUE);
        check.due("2 last word", kernel.word(15), -1);
        check.due("2 other word", kernel.word(1), 0);
    }

    private static void promise2Refusals() {
        check.noPlace("2 thread -1", Kernels::oneOfEach, kernel -> kernel.store(-1, 0, 1));
        check.noPlace("2 thread 8", Kernels::oneOfEach, kernel -> kernel.store(8, 0, 1));
        check.noPlace("2 address -1", Kernels::oneOfEach, kernel -> kernel.store(0, -1, 1));
        check.noPlace("2 address 16", Kernels::oneOfEach, kernel -> kernel.store(0, 16, 1));
        check.noPlace("2 far", Kernels::oneOfEach, kernel -> kernel.store(Integer.MAX_VALUE, Integer.MIN_VALUE, 1));
        for (int thread = 1; thread <= 3; thread++) {
            int caller = thread;
            check.noState("2 not RUNNING " + thread, Kernels::oneOfEach, kernel -> kernel.store(caller, 2, 1));
            check.noPlace("2 place before state " + thread, Kernels::oneOfEach, kernel -> kernel.store(caller, 16, 1));
        }
    }

    private static void promise3CompareAndSet() {
        FutexKernel kernel = new FutexKernel();
        check.due("3 not expected", kernel.compareAndSet(0, 3, 1, 7), false);
        check.due("3 word stays", kernel.word(3), 0);
        check.due("3 expected", kernel.compareAndSet(0, 3, 0, 7), true);
        check.due("3 word", kernel.word(3), 7);
        check.due("3 all bits count", kernel.compareAndSet(0, 3, 7 | Integer.MIN_VALUE, 8), false);
        check.due("3 to the same", kernel.compareAndSet(0, 3, 7, 7), true);
    }

    private static void promise3Refusals() {
        check.noPlace("3 thread -1", Kernels::oneOfEach, kernel -> kernel.compareAndSet(-1, 0, 0, 1));
        check.noPlace("3 thread 8", Kernels::oneOfEach, kernel -> kernel.compareAndSet(8, 0, 0, 1));
        check.noPlace("3 address -1", Kernels::oneOfEach, kernel -> kernel.compareAndSet(0, -1, 0, 1));
        check.noPlace("3 address 16", Kernels::oneOfEach, kernel -> kernel.compareAndSet(0, 16, 0, 1));
        for (int thread = 1; thread <= 3; thread++) {
            int caller = thread;
            check.noState("3 not RUNNING " + thread, Kernels::oneOfEach,
                    kernel -> kernel.compareAndSet(caller, 2, 0, 1));
            check.noState("3 not RUNNING nor expected " + thread, Kernels::oneOfEach,
                    kernel -> kernel.compareAndSet(caller, 2, 9, 1));
            check.noPlace("3 place before state " + thread, Kernels::oneOfEach,
                    kernel -> kernel.compareAndSet(caller, 16, 0, 1));
        }
    }

    private static void promise4FetchAdd() {
        FutexKernel kernel = new FutexKernel();
        check.due("4 fetchAdd", kernel.fetchAdd(0, 4, 7), 0);
        check.due("4 again", kernel.fetchAdd(0, 4, -9), 7);
        check.due("4 below 0", kernel.word(4), -2);
        kernel.store(0, 4, Integer.MAX_VALUE);
        check.due("4 greatest", kernel.fetchAdd(1, 4, 1), Integer.MAX_VALUE);
        check.due("4 with 32 bits", kernel.word(4), Integer.MIN_VALUE);
        kernel.fetchAdd(1, 4, Integer.MIN_VALUE);
        check.due("4 twice the least", kernel.word(4), 0);
    }

    private static void promise4Refusals() {
        check.noPlace("4 thread -1", Kernels::oneOfEach, kernel -> kernel.fetchAdd(-1, 0, 1));
        check.noPlace("4 thread 8", Kernels::oneOfEach, kernel -> kernel.fetchAdd(8, 0, 1));
        check.noPlace("4 address -1", Kernels::oneOfEach, kernel -> kernel.fetchAdd(0, -1, 1));
        check.noPlace("4 address 16", Kernels::oneOfEach, kernel -> kernel.fetchAdd(0, 16, 1));
        for (int thread = 1; thread <= 3; thread++) {
            int caller = thread;
            check.noState("4 not RUNNING " + thread, Kernels::oneOfEach, kernel -> kernel.fetchAdd(caller, 2, 1));
            check.noPlace("4 place before state " + thread, Kernels::oneOfEach,
                    kernel -> kernel.fetchAdd(caller, 16, 1));
        }
    }

    private static void promise5Word() {
        FutexKernel kernel = new FutexKernel();
        for (int address = 0; address < 16; address++) {
            kernel.store(0, address, address * 1000 + 1);
        }
        for (int address = 0; address < 16; address++) {
            check.due("5 word " + address, kernel.word(address), address * 1000 + 1);
        }
        check.noPlace("5 address -1", FutexKernel::new, other -> other.word(-1));
        check.noPlace("5 address 16", FutexKernel::new, other -> other.word(16));
        check.noPlace("5 least", FutexKernel::new, other -> other.word(Integer.MIN_VALUE));
    }

    /** "A word can be overwritten at any time, lock or not; the lists do not change by that." */
    private static void wordsAreFreeUnderLocks() {
        FutexKernel kernel = new FutexKernel();
        kernel.lock(0, 5, 0);
        kernel.lock(1, 5, 0);
        check.due("store on a lock", kernel.store(2, 5, 3), Integer.MIN_VALUE | 1);
        check.due("the list stays", kernel.lockAt(0, 0), 5);
        check.due("the new owner has no list", kernel.locks(2), 0);
        check.due("the waiter stays", kernel.stateOf(1), FutexKernel.LOCKING);
        check.due("compareAndSet on a lock", kernel.compareAndSet(0, 5, 3, 0), true);
        check.due("fetchAdd on a lock", kernel.fetchAdd(0, 5, 2), 0);
        check.due("the list stays still", kernel.locks(0), 1);
        check.due("the waiter stays still", kernel.waiterAt(5, 0), 1);
    }

    private static void oneOfEachState() {
        FutexKernel kernel = Kernels.oneOfEach();
        check.due("set-up: 1", kernel.stateOf(1), FutexKernel.WAITING);
        check.due("set-up: 2", kernel.stateOf(2), FutexKernel.LOCKING);
        check.due("set-up: 3", kernel.stateOf(3), FutexKernel.DEAD);
    }
}
