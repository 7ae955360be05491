/** Promises 14 to 24: threads and time. */
public final class ThreadsTest {
    private static final int DIED = 1 << 30;
    private static final int WAITERS = 1 << 31;
    private static final Check check = new Check();

    public static void main(String[] args) {
        promise14Interrupt();
        promise15ExitPassesLocksOn();
        promise15ExitOfOneThatWaits();
        promise15OverwrittenLocks();
        promise16Start();
        promise17SetPriority();
        promise17Refusals();
        promise18Tick();
        promise18OrderInOneTick();
        promise18Refusals();
        promise19Now();
        promise20NextTimeout();
        promise21To24Queries();
        check.end("ThreadsTest");
    }

    private static void promise14Interrupt() {
        FutexKernel kernel = new FutexKernel();
        kernel.await(1, 0, 0, 1, 5);
        kernel.lock(0, 1, 0);
        kernel.lock(2, 1, 0);
        kernel.interrupt(2);
        check.due("14 result", kernel.resultOf(2), FutexKernel.INTERRUPTED);
        check.due("14 serial", kernel.serialOf(2), 1);
        check.due("14 state", kernel.stateOf(2), FutexKernel.RUNNING);
        check.due("14 address", kernel.addressOf(2), FutexKernel.NONE);
        check.due("14 bit 31", kernel.word(1), 1);
        kernel.interrupt(1);
        check.due("14 next serial", kernel.serialOf(1), 2);
        check.due("14 no deadline", kernel.nextTimeout(), FutexKernel.NONE);
        check.due("14 no queue", kernel.queueAt(0, 0), FutexKernel.NONE);
        check.noState("14 RUNNING", Kernels::oneOfEach, other -> other.interrupt(0));
        check.noState("14 DEAD", Kernels::oneOfEach, other -> other.interrupt(3));
        check.noPlace("14 thread -1", Kernels::oneOfEach, other -> other.interrupt(-1));
        check.noPlace("14 thread 8", Kernels::oneOfEach, other -> other.interrupt(8));
    }

    private static void promise15ExitPassesLocksOn() {
        FutexKernel kernel = new FutexKernel();
        kernel.lock(0, 9, 0);
        kernel.lock(0, 2, 0);
        kernel.lock(0, 4, 0);
        kernel.lock(1, 2, 0);
        kernel.lock(2, 2, 0);
        kernel.lock(3, 9, 7);
        check.due("15 how many", kernel.exit(0), 3);
        check.due("15 DEAD", kernel.stateOf(0), FutexKernel.DEAD);
        check.due("15 empty list", kernel.locks(0), 0);
        check.due("15 passed on, others LOCKING", kernel.word(2), WAITERS | DIED | 2);
        check.due("15 passed on, no other", kernel.word(9), DIED | 4);
        check.due("15 nobody LOCKING", kernel.word(4), DIED);
        check.due("15 the list's first one first", kernel.serialOf(3), 1);
        check.due("15 then the second", kernel.serialOf(1), 2);
        check.due("15 result", kernel.resultOf(3), FutexKernel.OWNER_DIED);
        check.due("15 result", kernel.resultOf(1), FutexKernel.OWNER_DIED);
        check.due("15 gets the lock", kernel.lockAt(1, 0), 2);
        check.due("15 stays", kernel.stateOf(2), FutexKernel.LOCKING);
        check.due("15 no wait of its own ended", kernel.serialOf(0), 0);
        check.due("15 from the dead", kernel.lock(5, 4, 0), FutexKernel.ACQUIRED_FROM_DEAD);
        check.due("15 again", kernel.exit(1), 1);
        check.due("15 to the next", kernel.word(2), DIED | 3);
        check.due("15 HANDED has no DIED", kernel.unlock(2, 2), FutexKernel.NONE);
        check.due("15 no DIED then", kernel.word(2), 0);
        check.noState("15 DEAD", Kernels::oneOfEach, other -> other.exit(3));
        check.noPlace("15 thread -1", Kernels::oneOfEach, other -> other.exit(-1));
        check.noPlace("15 thread 8", Kernels::oneOfEach, other -> other.exit(8));
    }

    private static void promise15ExitOfOneThatWaits() {
        FutexKernel kernel = new FutexKernel();
        kernel.await(1, 0, 0, 1, 5);
        kernel.interrupt(1);
        kernel.await(1, 0, 0, 1, 5);
        kernel.await(2, 0, 0, 1, 0);
        check.due("15 no locks", kernel.exit(1), 0);
        check.due("15 left its queue", kernel.queueAt(0, 0), 2);
        check.due("15 at no address", kernel.addressOf(1), FutexKernel.NONE);
        check.due("15 the latest result stays", kernel.resultOf(1), FutexKernel.INTERRUPTED);
        check.due("15 its serial stays", kernel.serialOf(1), 1);
        check.due("15 no deadline", kernel.nextTimeout(), FutexKernel.NONE);
        kernel.interrupt(2);
        check.due("15 no serial was taken", kernel.serialOf(2), 2);

        kernel.lock(3, 3, 0);
        kernel.lock(4, 4, 0);
        kernel.lock(4, 3, 0);
        kernel.lock(5, 4, 0);
        check.due("15 of one LOCKING", kernel.exit(4), 1);
        check.due("15 bit 31 is cleared", kernel.word(3), 4);
        check.due("15 its own lock is passed on", kernel.word(4), DIED | 6);
        check.due("15 the serial goes on", kernel.serialOf(5), 3);

        FutexKernel own = new FutexKernel();
        own.lock(0, 0, 0);
        own.lock(1, 0, 0);
        own.unlock(0, 0);
        own.store(0, 0, 1);
        own.lock(1, 0, 0);
        own.store(0, 0, 2 | WAITERS);
        check.due("15 LOCKING at a lock of its own", own.exit(1), 1);
        check.due("15 not passed on to itself", own.word(0), DIED);
    }

    private static void promise15OverwrittenLocks() {
        FutexKernel kernel = new FutexKernel();
        kernel.lock(0, 1, 0);
        kernel.lock(0, 2, 0);
        kernel.lock(0, 3, 0);
        kernel.store(1, 1, 2);
        kernel.store(1, 2, 0);
        kernel.store(1, 3, 0xABC01);
        kernel.store(1, 4, 1);
        check.due("15 only by the word", kernel.exit(0), 1);
        check.due("15 another owner", kernel.word(1), 2);
        check.due("15 no owner", kernel.word(2), 0);
        check.due("15 other bits become 0", kernel.word(3), DIED);
        check.due("15 only by the list", kernel.word(4), 1);
        check.due("15 the list is empty all the same", kernel.locks(0), 0);
    }

    private static void promise16Start() {
        FutexKernel kernel = new FutexKernel();
        kernel.setPriority(0, 7);
        kernel.lock(0, 5, 0);
        kernel.await(0, 0, 0, 1, 1);
        kernel.tick(1);
        kernel.exit(0);
        check.due("16 the result before", kernel.resultOf(0), FutexKernel.TIMED_OUT);
        kernel.start(0);
        check.due("16 RUNNING", kernel.stateOf(0), FutexKernel.RUNNING);
        check.due("16 no result", kernel.resultOf(0), FutexKernel.NONE);
        check.due("16 no serial", kernel.serialOf(0), 0);
        check.due("16 no locks", kernel.locks(0), 0);
        check.due("16 no address", kernel.addressOf(0), FutexKernel.NONE);
        check.due("16 priority 0", kernel.setPriority(0, 3), 0);
        check.due("16 it waits anew", kernel.await(0, 1, 0, 1, 0), true);
        kernel.interrupt(0);
        check.due("16 the serials go on", kernel.serialOf(0), 2);
        check.noState("16 RUNNING", Kernels::oneOfEach, other -> other.start(0));
        check.noState("16 WAITING", Kernels::oneOfEach, other -> other.start(1));
        check.noState("16 LOCKING", Kernels::oneOfEach, other -> other.start(2));
        check.noPlace("16 thread -1", Kernels::oneOfEach, other -> other.start(-1));
        check.noPlace("16 thread 8", Kernels::oneOfEach, other -> other.start(8));
    }

    private static void promise17SetPriority() {
        FutexKernel kernel = new FutexKernel();
        check.due("17 before", kernel.setPriority(1, 9), 0);
        check.due("17 before", kernel.setPriority(1, 4), 9);
        for (int thread = 2; thread <= 4; thread++) {
            kernel.await(thread, 0, 0, 1, 0);
        }
        kernel.setPriority(2, 0);
        check.due("17 the same keeps the place", kernel.queueAt(0, 0), 2);
        check.due("17 a change", kernel.setPriority(4, 1), 0);
        check.due("17 first now", kernel.queueAt(0, 0), 4);
        kernel.setPriority(4, 0);
        check.due("17 joins behind all others", kernel.queueAt(0, 2), 4);
        kernel.setPriority(2, 1);
        kernel.setPriority(2, 0);
        check.due("17 the first one now", kernel.queueAt(0, 0), 3);
        check.due("17 the last one now", kernel.queueAt(0, 2), 2);
        check.due("17 the wait does not end", kernel.stateOf(2), FutexKernel.WAITING);
        check.due("17 no result", kernel.resultOf(2), FutexKernel.NONE);
        kernel.lock(0, 1, 0);
        kernel.lock(5, 1, 0);
        kernel.lock(6, 1, 0);
        kernel.setPriority(6, 8);
        check.due("17 of one LOCKING", kernel.waiterAt(1, 0), 6);
        kernel.unlock(0, 1);
        check.due("17 it gets the lock", kernel.word(1), WAITERS | 7);
        kernel.setPriority(5, 1);
        check.due("17 bit 31 stays", kernel.word(1), WAITERS | 7);
    }

    private static void promise17Refusals() {
        check.noPlace("17 thread -1", Kernels::everyState, kernel -> kernel.setPriority(-1, 10));
        check.noPlace("17 thread 8", Kernels::everyState, kernel -> kernel.setPriority(8, 0));
        check.noArgument("17 priority -1", Kernels::everyState, kernel -> kernel.setPriority(0, -1));
        check.noArgument("17 priority 10", Kernels::everyState, kernel -> kernel.setPriority(0, 10));
        check.noArgument("17 argument first", Kernels::everyState, kernel -> kernel.setPriority(3, 10));
        check.noState("17 DEAD", Kernels::everyState, kernel -> kernel.setPriority(3, 1));
        check.noState("17 DEAD, the same", Kernels::everyState, kernel -> kernel.setPriority(3, 2));
    }

    private static void promise18Tick() {
        FutexKernel kernel = new FutexKernel();
        kernel.await(1, 0, 0, 1, 3);
        kernel.await(2, 1, 0, 1, 1);
        kernel.await(3, 2, 0, 1, 0);
        kernel.lock(0, 3, 0);
        kernel.lock(4, 3, 3);
        check.due("18 one tick", kernel.tick(1), 1);
        check.due("18 the first deadline", kernel.resultOf(2), FutexKernel.TIMED_OUT);
        check.due("18 not before", kernel.tick(1), 0);
        check.due("18 two in one tick", kernel.tick(1), 2);
        check.due("18 serial", kernel.serialOf(1), 2);
        check.due("18 serial of the later one", kernel.serialOf(4), 3);
        check.due("18 TIMED_OUT", kernel.resultOf(4), FutexKernel.TIMED_OUT);
        check.due("18 RUNNING", kernel.stateOf(4), FutexKernel.RUNNING);
        check.due("18 bit 31", kernel.word(3), 1);
        check.due("18 no deadline, no end", kernel.tick(1000), 0);
        check.due("18 it waits still", kernel.stateOf(3), FutexKernel.WAITING);
        kernel.await(5, 2, 0, 1, 10000);
        for (int times = 0; times < 9; times++) {
            check.due("18 a thousand", kernel.tick(1000), 0);
        }
        check.due("18 nearly", kernel.tick(999), 0);
        check.due("18 the last one", kernel.tick(1), 1);
        kernel.await(6, 0, 0, 1, 5);
        kernel.interrupt(6);
        kernel.await(6, 0, 0, 1, 50);
        check.due("18 an old deadline is forgotten", kernel.tick(49), 0);
        kernel.wake(0, 0, 1, 1);
        check.due("18 a wait that has ended", kernel.tick(10), 0);
    }

    private static void promise18OrderInOneTick() {
        FutexKernel kernel = new FutexKernel();
        kernel.await(5, 0, 0, 1, 10);
        kernel.tick(4);
        kernel.await(2, 1, 0, 1, 6);
        kernel.await(7, 2, 0, 1, 1);
        kernel.await(1, 0, 0, 1, 6);
        kernel.await(3, 0, 0, 1, 2);
        kernel.setPriority(5, 1);
        kernel.setPriority(5, 0);
        kernel.setPriority(1, 9);
        kernel.requeue(0, 1, 0, 0, 0, 1);
        check.due("18 all of them", kernel.tick(1000), 5);
        check.due("18 the earliest tick", kernel.serialOf(7), 1);
        check.due("18 the next tick", kernel.serialOf(3), 2);
        check.due("18 the first to wait", kernel.serialOf(5), 3);
        check.due("18 the second to wait", kernel.serialOf(2), 4);
        check.due("18 the third to wait", kernel.serialOf(1), 5);
    }

    private static void promise18Refusals() {
        check.noArgument("18 ticks 0", Kernels::everyState, kernel -> kernel.tick(0));
        check.noArgument("18 ticks -1", Kernels::everyState, kernel -> kernel.tick(-1));
        check.noArgument("18 ticks 1001", Kernels::everyState, kernel -> kernel.tick(1001));
        check.noArgument("18 least ticks", Kernels::everyState, kernel -> kernel.tick(Integer.MIN_VALUE));
        check.noArgument("18 greatest ticks", Kernels::everyState, kernel -> kernel.tick(Integer.MAX_VALUE));
    }

    private static void promise19Now() {
        FutexKernel kernel = new FutexKernel();
        kernel.tick(1);
        kernel.tick(1000);
        check.due("19 now", kernel.now(), 1001);
        kernel.await(0, 0, 0, 1, 2);
        kernel.tick(7);
        check.due("19 now", kernel.now(), 1008);
        kernel.store(0, 0, 1);
        check.due("19 by tick alone", kernel.now(), 1008);
    }

    private static void promise20NextTimeout() {
        FutexKernel kernel = new FutexKernel();
        kernel.tick(100);
        kernel.await(0, 0, 0, 1, 0);
        check.due("20 no deadline", kernel.nextTimeout(), FutexKernel.NONE);
        kernel.await(1, 0, 0, 1, 30);
        check.due("20 one", kernel.nextTimeout(), 30);
        kernel.tick(10);
        check.due("20 ticks count", kernel.nextTimeout(), 20);
        kernel.lock(2, 1, 0);
        kernel.lock(3, 1, 5);
        check.due("20 the least", kernel.nextTimeout(), 5);
        kernel.unlock(2, 1);
        check.due("20 the wait has ended", kernel.nextTimeout(), 20);
        kernel.tick(19);
        check.due("20 the next tick", kernel.nextTimeout(), 1);
        kernel.tick(1);
        check.due("20 none any more", kernel.nextTimeout(), FutexKernel.NONE);
    }

    private static void promise21To24Queries() {
        FutexKernel kernel = new FutexKernel();
        kernel.await(0, 0, 0, 1, 0);
        kernel.lock(1, 12, 0);
        kernel.lock(2, 12, 0);
        kernel.await(4, 15, 0, 4, 0);
        kernel.wake(1, 15, 1, 4);
        kernel.await(4, 3, 0, 4, 0);
        kernel.exit(3);
        int[] states = {FutexKernel.WAITING, FutexKernel.RUNNING, FutexKernel.LOCKING, FutexKernel.DEAD};
        int[] addresses = {0, FutexKernel.NONE, 12, FutexKernel.NONE};
        for (int thread = 0; thread < 4; thread++) {
            check.due("21 stateOf " + thread, kernel.stateOf(thread), states[thread]);
            check.due("22 addressOf " + thread, kernel.addressOf(thread), addresses[thread]);
        }
        check.due("23 of the latest wait that has ended", kernel.resultOf(4), FutexKernel.WOKEN);
        check.due("24 its serial", kernel.serialOf(4), 1);
        kernel.interrupt(4);
        check.due("23 the next one", kernel.resultOf(4), FutexKernel.INTERRUPTED);
        check.due("24 its serial", kernel.serialOf(4), 2);
        check.due("23 none", kernel.resultOf(0), FutexKernel.NONE);
        check.due("24 none", kernel.serialOf(0), 0);
        int[] wrong = {-1, 8, Integer.MIN_VALUE, Integer.MAX_VALUE};
        for (int thread : wrong) {
            check.noPlace("21 thread " + thread, Kernels::everyState, other -> other.stateOf(thread));
            check.noPlace("22 thread " + thread, Kernels::everyState, other -> other.addressOf(thread));
            check.noPlace("23 thread " + thread, Kernels::everyState, other -> other.resultOf(thread));
            check.noPlace("24 thread " + thread, Kernels::everyState, other -> other.serialOf(thread));
        }
    }
}
