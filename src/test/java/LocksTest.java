/** Promises 9 to 13: lock, unlock, locks, lockAt and blockedBy. */
public final class LocksTest {
    private static final int DIED = 1 << 30;
    private static final int WAITERS = 1 << 31;
    private static final Check check = new Check();

    public static void main(String[] args) {
        promise9TakesAFreeLock();
        promise9KeepsTheMarksOfAFreeLock();
        promise9NoOwner();
        promise9Waits();
        promise9Deadlock();
        promise9SearchEnds();
        promise9Refusals();
        promise10PassesOn();
        promise10OfAnOverwrittenLock();
        promise10Refusals();
        promise11And12Lists();
        promise11And12Refusals();
        promise13BlockedBy();
        promise13Cycles();
        lastLockerClearsWaiters();
        check.end("LocksTest");
    }

    private static void promise9TakesAFreeLock() {
        FutexKernel kernel = new FutexKernel();
        check.due("9 ACQUIRED", kernel.lock(7, 15, 10000), FutexKernel.ACQUIRED);
        check.due("9 word", kernel.word(15), 8);
        check.due("9 list", kernel.lockAt(7, 0), 15);
        check.due("9 RUNNING", kernel.stateOf(7), FutexKernel.RUNNING);
        check.due("9 no deadline", kernel.nextTimeout(), FutexKernel.NONE);
        check.due("9 itself", kernel.lock(7, 15, 0), FutexKernel.DEADLOCK);
        check.unchanged("9 itself", Kernels::everyState, other -> other.lock(0, Kernels.LOCKED, 0));
    }

    private static void promise9KeepsTheMarksOfAFreeLock() {
        FutexKernel kernel = new FutexKernel();
        kernel.store(0, 1, 0x3FFFFF00);
        check.due("9 other bits", kernel.lock(0, 1, 0), FutexKernel.ACQUIRED);
        check.due("9 other bits become 0", kernel.word(1), 1);
        kernel.store(0, 2, DIED | WAITERS | 0x100);
        check.due("9 DIED", kernel.lock(1, 2, 0), FutexKernel.ACQUIRED_FROM_DEAD);
        check.due("9 DIED stays, WAITERS does not", kernel.word(2), DIED | 2);
        kernel.lock(3, 3, 0);
        kernel.lock(4, 3, 0);
        kernel.store(0, 3, 0);
        check.due("9 free with one LOCKING", kernel.lock(5, 3, 0), FutexKernel.ACQUIRED);
        check.due("9 WAITERS is set", kernel.word(3), WAITERS | 6);
        kernel.await(6, 4, 0, 1, 0);
        check.due("9 free with one WAITING", kernel.lock(5, 4, 0), FutexKernel.ACQUIRED);
        check.due("9 WAITERS is not set", kernel.word(4), 6);
        kernel.store(0, 3, DIED);
        check.due("9 again, from the dead", kernel.lock(5, 3, 0), FutexKernel.ACQUIRED_FROM_DEAD);
        check.due("9 both marks", kernel.word(3), WAITERS | DIED | 6);
        check.due("9 once in the list", kernel.locks(5), 2);
        check.due("9 where it was", kernel.lockAt(5, 0), 3);
    }

    private static void promise9NoOwner() {
        FutexKernel kernel = new FutexKernel();
        kernel.exit(3);
        int[] words = {9, 255, WAITERS | 9, 4, DIED | 4};
        for (int word : words) {
            kernel.store(0, 0, word);
            check.due("9 NO_OWNER " + word, kernel.lock(1, 0, 5), FutexKernel.NO_OWNER);
            check.unchanged("9 NO_OWNER " + word, () -> deadAndWord(word), other -> other.lock(1, 0, 5));
        }
        kernel.store(0, 0, 0x108);
        check.due("9 only the lowest 8 bits", kernel.lock(1, 0, 0), FutexKernel.MUST_WAIT);
    }

    private static FutexKernel deadAndWord(int word) {
        FutexKernel kernel = new FutexKernel();
        kernel.exit(3);
        kernel.store(0, 0, word);
        return kernel;
    }

    private static void promise9Waits() {
        FutexKernel kernel = new FutexKernel();
        kernel.store(0, 6, 0x12345601 | DIED);
        kernel.setPriority(2, 1);
        check.due("9 MUST_WAIT", kernel.lock(1, 6, 0), FutexKernel.MUST_WAIT);
        check.due("9 only bit 31 is set", kernel.word(6), 0x12345601 | DIED | WAITERS);
        check.due("9 LOCKING", kernel.stateOf(1), FutexKernel.LOCKING);
        check.due("9 address", kernel.addressOf(1), 6);
        check.due("9 no list yet", kernel.locks(1), 0);
        check.due("9 no deadline", kernel.nextTimeout(), FutexKernel.NONE);
        check.due("9 with a deadline", kernel.lock(2, 6, 10000), FutexKernel.MUST_WAIT);
        check.due("9 the deadline", kernel.nextTimeout(), 10000);
        check.due("9 joins by priority", kernel.queueAt(3, 0), 2);
        check.due("9 behind", kernel.queueAt(3, 1), 1);
    }

    private static void promise9Deadlock() {
        FutexKernel kernel = Kernels.longestChain();
        for (int thread = 0; thread < 7; thread++) {
            check.due("9 a chain", kernel.stateOf(thread), FutexKernel.LOCKING);
        }
        check.due("9 the longest circle", kernel.lock(7, 0, 0), FutexKernel.DEADLOCK);
        check.due("9 a short circle", kernel.lock(7, 6, 9), FutexKernel.DEADLOCK);
        check.unchanged("9 the longest circle", Kernels::longestChain, other -> other.lock(7, 0, 0));
        check.unchanged("9 a short circle", Kernels::longestChain, other -> other.lock(7, 6, 9));
    }

    private static void promise9SearchEnds() {
        FutexKernel kernel = new FutexKernel();
        kernel.lock(1, 1, 0);
        kernel.lock(2, 2, 0);
        kernel.lock(1, 2, 0);
        kernel.store(0, 2, 0);
        check.due("9 ends at no owner", kernel.lock(3, 1, 0), FutexKernel.MUST_WAIT);
        kernel.store(0, 2, 9);
        check.due("9 ends at no number of a thread", kernel.lock(4, 1, 0), FutexKernel.MUST_WAIT);
        kernel.exit(7);
        kernel.store(0, 2, 8);
        check.due("9 ends at one that is DEAD", kernel.lock(5, 1, 0), FutexKernel.MUST_WAIT);
        kernel.store(0, 2, 2);
        check.due("9 ends in a circle of others", kernel.lock(6, 1, 0), FutexKernel.MUST_WAIT);

        FutexKernel other = new FutexKernel();
        other.lock(0, 0, 0);
        other.await(1, 1, 0, 1, 0);
        other.store(0, 1, 1);
        other.store(0, 2, 2);
        check.due("9 an owner that is WAITING", other.lock(0, 2, 0), FutexKernel.MUST_WAIT);
    }

    private static void promise9Refusals() {
        check.noPlace("9 thread -1", Kernels::oneOfEach, kernel -> kernel.lock(-1, 0, 0));
        check.noPlace("9 thread 8", Kernels::oneOfEach, kernel -> kernel.lock(8, 0, -1));
        check.noPlace("9 address -1", Kernels::oneOfEach, kernel -> kernel.lock(0, -1, 0));
        check.noPlace("9 address 16", Kernels::oneOfEach, kernel -> kernel.lock(0, 16, 10001));
        check.noArgument("9 timeout -1", Kernels::oneOfEach, kernel -> kernel.lock(0, 0, -1));
        check.noArgument("9 timeout 10001", Kernels::oneOfEach, kernel -> kernel.lock(0, 0, 10001));
        check.noArgument("9 timeout of the owner", Kernels::oneOfEach, kernel -> kernel.lock(0, 1, 10001));
        for (int thread = 1; thread <= 3; thread++) {
            int caller = thread;
            check.noState("9 not RUNNING " + thread, Kernels::oneOfEach, kernel -> kernel.lock(caller, 0, 0));
            check.noArgument("9 argument first " + thread, Kernels::oneOfEach, kernel -> kernel.lock(caller, 0, -1));
            check.noPlace("9 place first " + thread, Kernels::oneOfEach, kernel -> kernel.lock(caller, 16, -1));
        }
    }

    private static void promise10PassesOn() {
        FutexKernel kernel = new FutexKernel();
        kernel.lock(0, 5, 0);
        kernel.lock(1, 5, 9);
        kernel.setPriority(2, 3);
        kernel.lock(2, 5, 0);
        kernel.await(3, 5, kernel.word(5), 255, 0);
        kernel.setPriority(3, 9);
        check.due("10 the first one LOCKING", kernel.unlock(0, 5), 2);
        check.due("10 word", kernel.word(5), WAITERS | 3);
        check.due("10 HANDED", kernel.resultOf(2), FutexKernel.HANDED);
        check.due("10 serial", kernel.serialOf(2), 1);
        check.due("10 RUNNING", kernel.stateOf(2), FutexKernel.RUNNING);
        check.due("10 left the list", kernel.locks(0), 0);
        check.due("10 in the new list", kernel.lockAt(2, 0), 5);
        check.due("10 the next", kernel.unlock(2, 5), 1);
        check.due("10 no WAITERS any more", kernel.word(5), 2);
        check.due("10 no deadline any more", kernel.nextTimeout(), FutexKernel.NONE);
        check.due("10 nobody LOCKING", kernel.unlock(1, 5), FutexKernel.NONE);
        check.due("10 word 0", kernel.word(5), 0);
        check.due("10 the one WAITING stays", kernel.stateOf(3), FutexKernel.WAITING);
    }

    private static void promise10OfAnOverwrittenLock() {
        FutexKernel kernel = new FutexKernel();
        kernel.store(0, 4, DIED | WAITERS | 0xFFF00 | 2);
        check.due("10 not in the list", kernel.unlock(1, 4), FutexKernel.NONE);
        check.due("10 all bits become 0", kernel.word(4), 0);
        kernel.store(0, 4, DIED | 2);
        kernel.lock(3, 4, 0);
        check.due("10 passed on", kernel.unlock(1, 4), 3);
        check.due("10 DIED is gone", kernel.word(4), 4);

        kernel.lock(5, 6, 0);
        kernel.lock(5, 7, 0);
        kernel.store(0, 6, 1);
        kernel.lock(5, 6, 0);
        check.due("10 the owner by the word", kernel.unlock(0, 6), 5);
        check.due("10 once in the list", kernel.locks(5), 2);
        check.due("10 at its place", kernel.lockAt(5, 0), 6);
    }

    private static void promise10Refusals() {
        check.noPlace("10 thread -1", LocksTest::owners, kernel -> kernel.unlock(-1, 0));
        check.noPlace("10 thread 8", LocksTest::owners, kernel -> kernel.unlock(8, 0));
        check.noPlace("10 address -1", LocksTest::owners, kernel -> kernel.unlock(0, -1));
        check.noPlace("10 address 16", LocksTest::owners, kernel -> kernel.unlock(1, 16));
        check.noState("10 no owner", LocksTest::owners, kernel -> kernel.unlock(0, 0));
        check.noState("10 another owner", LocksTest::owners, kernel -> kernel.unlock(4, 1));
        check.noState("10 WAITING", LocksTest::owners, kernel -> kernel.unlock(1, 8));
        check.noState("10 LOCKING", LocksTest::owners, kernel -> kernel.unlock(2, 9));
        check.noState("10 DEAD", LocksTest::owners, kernel -> kernel.unlock(3, 10));
        check.noState("10 in the list, not in the word", LocksTest::owners, kernel -> kernel.unlock(0, 6));
        check.noState("10 no thread in the word", LocksTest::owners, kernel -> kernel.unlock(0, 7));
    }

    /** Words that name 1, WAITING, 2, LOCKING, and 3, DEAD; two of 0's locks are overwritten. */
    private static FutexKernel owners() {
        FutexKernel kernel = Kernels.oneOfEach();
        kernel.store(0, 8, 2);
        kernel.store(0, 9, 3);
        kernel.store(0, 10, 4);
        kernel.lock(0, 6, 0);
        kernel.store(0, 6, 0);
        kernel.lock(0, 7, 0);
        kernel.store(0, 7, 9);
        return kernel;
    }

    private static void promise11And12Lists() {
        FutexKernel kernel = new FutexKernel();
        for (int count = 0; count < 16; count++) {
            check.due("11 locks", kernel.locks(6), count);
            kernel.lock(6, (count * 5) % 16, 0);
        }
        check.due("11 all of them", kernel.locks(6), 16);
        for (int place = 0; place < 16; place++) {
            check.due("12 lockAt", kernel.lockAt(6, place), (place * 5) % 16);
        }
        check.noPlace("12 behind all", Kernels::allLocked, other -> other.lockAt(0, 16));
        kernel.unlock(6, 5);
        kernel.unlock(6, 0);
        kernel.unlock(6, 11);
        check.due("11 three less", kernel.locks(6), 13);
        check.due("12 first", kernel.lockAt(6, 0), 10);
        check.due("12 last", kernel.lockAt(6, 12), 6);
        kernel.lock(6, 0, 0);
        check.due("12 at the end", kernel.lockAt(6, 13), 0);
    }

    private static void promise11And12Refusals() {
        check.noPlace("12 behind the last", Kernels::everyState, kernel -> kernel.lockAt(0, 2));
        check.noPlace("12 place -1", Kernels::everyState, kernel -> kernel.lockAt(0, -1));
        check.noPlace("12 least place", Kernels::everyState, kernel -> kernel.lockAt(0, Integer.MIN_VALUE));
        check.noPlace("12 empty list", Kernels::everyState, kernel -> kernel.lockAt(7, 0));
        check.noPlace("12 thread -1", Kernels::everyState, kernel -> kernel.lockAt(-1, 0));
        check.noPlace("12 thread 8", Kernels::everyState, kernel -> kernel.lockAt(8, 0));
        check.noPlace("11 thread -1", Kernels::everyState, kernel -> kernel.locks(-1));
        check.noPlace("11 thread 8", Kernels::everyState, kernel -> kernel.locks(8));
    }

    private static void promise13BlockedBy() {
        FutexKernel kernel = new FutexKernel();
        kernel.lock(7, 0, 0);
        check.due("13 nobody", kernel.blockedBy(7), 0);
        kernel.lock(6, 1, 0);
        kernel.lock(5, 2, 0);
        kernel.lock(5, 1, 0);
        kernel.lock(4, 2, 0);
        kernel.lock(6, 0, 0);
        kernel.lock(3, 0, 0);
        kernel.await(2, 0, kernel.word(0), 1, 0);
        check.due("13 directly and over others", kernel.blockedBy(7), 4);
        check.due("13 over one", kernel.blockedBy(6), 2);
        check.due("13 directly", kernel.blockedBy(5), 1);
        check.due("13 no locks", kernel.blockedBy(4), 0);
        check.due("13 not those WAITING", kernel.blockedBy(2), 0);
        kernel.store(1, 1, 0);
        check.due("13 the word tells", kernel.blockedBy(7), 2);
        kernel.exit(0);
        kernel.store(1, 0, 1);
        check.due("13 of one that is DEAD", kernel.blockedBy(0), 2);
        check.due("13 not the list", kernel.blockedBy(7), 0);
        check.noPlace("13 thread -1", Kernels::everyState, other -> other.blockedBy(-1));
        check.noPlace("13 thread 8", Kernels::everyState, other -> other.blockedBy(8));
    }

    private static void promise13Cycles() {
        FutexKernel kernel = new FutexKernel();
        kernel.lock(0, 1, 0);
        kernel.lock(1, 1, 0);
        kernel.store(0, 1, 2);
        check.due("13 itself does not count", kernel.blockedBy(1), 0);
        kernel.store(0, 2, 2);
        kernel.lock(2, 2, 0);
        kernel.store(0, 1, 3);
        check.due("13 a circle of two", kernel.blockedBy(1), 1);
        check.due("13 the other of the two", kernel.blockedBy(2), 1);

        FutexKernel chain = Kernels.longestChain();
        for (int thread = 0; thread < 8; thread++) {
            check.due("13 the longest chain", chain.blockedBy(thread), thread);
        }
    }

    /** "If the wait of a thread that is LOCKING ends in any other way, or the thread dies, ..." */
    private static void lastLockerClearsWaiters() {
        for (int way = 0; way < 3; way++) {
            FutexKernel kernel = new FutexKernel();
            kernel.store(0, 3, 0x7F123401);
            kernel.lock(1, 3, 4);
            kernel.lock(2, 3, 5);
            kernel.await(3, 3, kernel.word(3), 1, 0);
            endLocking(kernel, way, 1);
            check.due("another is LOCKING still " + way, kernel.word(3), 0xFF123401);
            endLocking(kernel, way, 2);
            check.due("bit 31 is cleared, one WAITING or not " + way, kernel.word(3), 0x7F123401);
        }
        FutexKernel kernel = new FutexKernel();
        kernel.lock(0, 3, 0);
        kernel.lock(1, 3, 0);
        kernel.store(0, 3, -1);
        kernel.interrupt(1);
        check.due("whatever the word is", kernel.word(3), Integer.MAX_VALUE);
        kernel.store(0, 4, WAITERS);
        kernel.await(2, 4, WAITERS, 1, 0);
        kernel.interrupt(2);
        check.due("not by one that was WAITING", kernel.word(4), WAITERS);
    }

    private static void endLocking(FutexKernel kernel, int way, int thread) {
        if (way == 0) {
            kernel.interrupt(thread);
        } else if (way == 1) {
            kernel.exit(thread);
        } else {
            kernel.tick(kernel.nextTimeout());
        }
    }
}
