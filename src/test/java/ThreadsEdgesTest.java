/** Promises 14 to 18, what threads do and what time does: a test for each sentence that has an edge. */
public final class ThreadsEdgesTest {
    private static final int LEAST = Integer.MIN_VALUE, GREATEST = Integer.MAX_VALUE;
    private static final int DIED = 1 << 30;
    private static final int WAITERS = 1 << 31;
    private static final Check check = new Check();

    public static void main(String[] args) {
        promise14EndsTheWait();
        promise14Refused();
        promise14NeitherWaitingNorLocking();
        promise15LeavesItsQueue();
        promise15NoEndOfAWait();
        promise15NoLocks();
        promise15AllLocks();
        promise15FromTheFirstToTheLast();
        promise15IfTheWordNamesIt();
        promise15BecauseItsOwnerHasDied();
        promise15ItsListIsEmptyThen();
        promise15Refused();
        promise16StartsAnew();
        promise16Refused();
        promise16NotDead();
        promise17ReturnsThePriorityBefore();
        promise17IfItChanges();
        promise17LeavesAndJoinsAnew();
        promise17ItsWaitDoesNotEnd();
        promise17NotInAQueue();
        promise17Refused();
        promise18TickByTick();
        promise18HowManyTicks();
        promise18HowManyEnded();
        promise18LateInTime();
        promise18Refused();
        check.end("ThreadsEdgesTest");
    }

    private static void promise14EndsTheWait() {
        check.sentence("14", "Ends the wait of a thread with INTERRUPTED.");
        FutexKernel kernel = Kernels.allWaiting();
        for (int thread = 0; thread < 8; thread++) {
            kernel.interrupt(thread);
            check.due("thread " + thread, kernel.resultOf(thread), FutexKernel.INTERRUPTED);
            check.due("serial", kernel.serialOf(thread), thread + 1);
            check.due("state", kernel.stateOf(thread), FutexKernel.RUNNING);
            check.due("the others stay", kernel.waiters(5), 7 - thread);
        }
        FutexKernel locking = Kernels.everyState();
        locking.interrupt(2);
        check.due("one LOCKING", locking.resultOf(2), FutexKernel.INTERRUPTED);
        check.due("it gets no lock", locking.locks(2), 0);
        check.due("another is LOCKING still", locking.word(Kernels.LOCKED), WAITERS | 1);
        locking.interrupt(6);
        check.due("the last one", locking.word(Kernels.LOCKED), 1);
    }

    private static void promise14Refused() {
        check.sentence("14", "if there is no such thread");
        check.noPlace("-1", Kernels::everyState, k -> k.interrupt(-1));
        check.noPlace("8", Kernels::everyState, k -> k.interrupt(8));
        check.noPlace("the least", Kernels::everyState, k -> k.interrupt(LEAST));
        check.noPlace("the greatest", Kernels::everyState, k -> k.interrupt(GREATEST));
    }

    private static void promise14NeitherWaitingNorLocking() {
        check.sentence("14", "if it is neither WAITING nor LOCKING");
        check.noState("RUNNING", Kernels::everyState, k -> k.interrupt(7));
        check.noState("RUNNING, with a result", Kernels::everyState, k -> k.interrupt(5));
        check.noState("RUNNING, with locks", Kernels::everyState, k -> k.interrupt(0));
        check.noState("DEAD", Kernels::everyState, k -> k.interrupt(3));
        check.noState("dead while it was WAITING", ThreadsEdgesTest::diedWaiting, k -> k.interrupt(1));
        check.noState("a new object", FutexKernel::new, k -> k.interrupt(0));
    }

    private static FutexKernel diedWaiting() {
        FutexKernel kernel = Kernels.everyState();
        kernel.exit(1);
        return kernel;
    }

    private static void promise15LeavesItsQueue() {
        check.sentence("15", "If it is WAITING or LOCKING it leaves its queue");
        FutexKernel kernel = Kernels.everyState();
        kernel.exit(1);
        check.due("WAITING: its queue", kernel.queueAt(0, 0), FutexKernel.NONE);
        check.due("its address", kernel.addressOf(1), FutexKernel.NONE);
        check.due("its state", kernel.stateOf(1), FutexKernel.DEAD);
        check.due("it can't be woken", kernel.wake(0, Kernels.FULL, 8, 255), 0);
        kernel.exit(6);
        check.due("LOCKING: its queue", kernel.queueAt(1, 0), 2);
        check.due("the other one stays", kernel.word(Kernels.LOCKED), WAITERS | 1);
        kernel.exit(2);
        check.due("the last one LOCKING", kernel.word(Kernels.LOCKED), 1);
        check.due("no lock for the dead", kernel.unlock(0, Kernels.LOCKED), FutexKernel.NONE);
        FutexKernel all = Kernels.allWaiting();
        for (int thread = 0; thread < 8; thread++) {
            check.due("thread " + thread, all.exit(thread), 0);
            check.due("left", all.waiters(5), 7 - thread);
        }
        all.start(7);
        check.due("nobody is there", all.wake(7, 5, 8, 255), 0);
    }

    private static void promise15NoEndOfAWait() {
        check.sentence("15", "that is no end of a wait, and gets no serial number");
        FutexKernel kernel = Kernels.everyState();
        kernel.exit(1);
        kernel.exit(2);
        check.due("WAITING: no result", kernel.resultOf(1), FutexKernel.NONE);
        check.due("no serial", kernel.serialOf(1), 0);
        check.due("LOCKING: no result", kernel.resultOf(2), FutexKernel.NONE);
        check.due("no serial", kernel.serialOf(2), 0);
        kernel.interrupt(4);
        check.due("the next serial", kernel.serialOf(4), 2);
        kernel.exit(5);
        check.due("an older result stays", kernel.resultOf(5), FutexKernel.INTERRUPTED);
        check.due("and its serial", kernel.serialOf(5), 1);
        check.due("its deadline is gone", kernel.tick(1000), 0);
    }

    private static void promise15NoLocks() {
        check.sentence("15", "Returns how many locks were passed on.");
        FutexKernel kernel = new FutexKernel();
        for (int thread = 0; thread < 8; thread++) {
            check.due("none, of " + thread, kernel.exit(thread), 0);
            check.due("state", kernel.stateOf(thread), FutexKernel.DEAD);
        }
        for (int address = 0; address < 16; address++) {
            check.due("word", kernel.word(address), 0);
        }
        check.due("time goes on without them", kernel.tick(1000), 0);
        kernel.start(0);
        check.due("and so does one", kernel.lock(0, 0, 0), FutexKernel.ACQUIRED);
    }

    private static void promise15AllLocks() {
        check.sentence("15", "Returns how many locks were passed on.");
        FutexKernel kernel = Kernels.allLocked();
        for (int thread = 1; thread < 8; thread++) {
            kernel.lock(thread, thread, 0);
        }
        check.due("all of them", kernel.exit(0), 16);
        for (int address = 0; address < 16; address++) {
            boolean waited = address >= 1 && address <= 7;
            check.due("word " + address, kernel.word(address), waited ? DIED | address + 1 : DIED);
        }
        for (int thread = 1; thread < 8; thread++) {
            check.due("serial of " + thread, kernel.serialOf(thread), 8 - thread);
            check.due("the lock of " + thread, kernel.lockAt(thread, 0), thread);
        }
    }

    private static void promise15FromTheFirstToTheLast() {
        check.sentence("15", "the addresses of its list of locks are gone through from the first to the last");
        FutexKernel kernel = new FutexKernel();
        int[] list = {9, 2, 15, 0};
        for (int address : list) {
            kernel.lock(0, address, 0);
        }
        kernel.lock(1, 0, 0);
        kernel.lock(2, 15, 0);
        kernel.lock(3, 2, 0);
        kernel.lock(4, 9, 0);
        check.due("all", kernel.exit(0), 4);
        for (int thread = 1; thread <= 4; thread++) {
            check.due("serial of " + thread, kernel.serialOf(thread), 5 - thread);
        }
    }

    private static void promise15IfTheWordNamesIt() {
        check.sentence("15", "if the word names it as the owner");
        int[] words = {0, 2, 9, 255, DIED, WAITERS, 0x100, 0x81};
        for (int word : words) {
            FutexKernel kernel = new FutexKernel();
            kernel.lock(0, 6, 0);
            kernel.lock(7, 6, 0);
            kernel.store(1, 6, word);
            check.due("overwritten by " + word, kernel.exit(0), 0);
            check.due("the word stays", kernel.word(6), word);
            check.due("the one LOCKING stays", kernel.stateOf(7), FutexKernel.LOCKING);
            check.due("no serial", kernel.serialOf(7), 0);
        }
        FutexKernel kernel = new FutexKernel();
        kernel.store(0, 6, 1);
        check.due("named, but not in the list", kernel.exit(0), 0);
        check.due("the word stays", kernel.word(6), 1);
        kernel.lock(1, 7, 0);
        kernel.store(1, 7, -256 | 2);
        check.due("other bits do not count", kernel.exit(1), 1);
        check.due("the word is new", kernel.word(7), DIED);
    }

    private static void promise15BecauseItsOwnerHasDied() {
        check.sentence("15", "the lock is passed on because its owner has died");
        FutexKernel kernel = new FutexKernel();
        kernel.lock(0, 0, 0);
        kernel.lock(1, 1, 0);
        kernel.lock(1, 0, 5);
        kernel.lock(2, 1, 5);
        check.due("one LOCKING dies: its own lock", kernel.exit(1), 1);
        check.due("is passed on", kernel.word(1), DIED | 3);
        check.due("the result", kernel.resultOf(2), FutexKernel.OWNER_DIED);
        check.due("it has no deadline any more", kernel.nextTimeout(), FutexKernel.NONE);
        check.due("the other lock stays with its owner", kernel.word(0), 1);
        check.due("and again", kernel.exit(2), 1);
        check.due("to nobody", kernel.word(1), DIED);
        check.due("and to the next", kernel.lock(3, 1, 0), FutexKernel.ACQUIRED_FROM_DEAD);
        FutexKernel own = new FutexKernel();
        own.lock(1, 0, 0);
        own.store(0, 0, 1);
        own.lock(1, 0, 0);
        own.store(0, 0, WAITERS | 2);
        check.due("LOCKING at its own lock", own.exit(1), 1);
        check.due("it does not get it", own.word(0), DIED);
    }

    private static void promise15ItsListIsEmptyThen() {
        check.sentence("15", "Its list is empty then.");
        FutexKernel kernel = Kernels.allLocked();
        kernel.store(0, 4, 2);
        check.due("all but one are passed on", kernel.exit(0), 15);
        check.due("how many", kernel.locks(0), 0);
        kernel.start(0);
        check.due("after it was started", kernel.locks(0), 0);
        kernel.lock(0, 3, 0);
        check.due("a new one", kernel.lockAt(0, 0), 3);
        check.due("the only one", kernel.exit(0), 1);
        check.noPlace("a place of the dead", Kernels::everyState, k -> k.lockAt(3, 0));
    }

    private static void promise15Refused() {
        check.sentence("15", "if there is no such thread");
        check.noPlace("-1", Kernels::everyState, k -> k.exit(-1));
        check.noPlace("8", Kernels::everyState, k -> k.exit(8));
        check.noPlace("the least", Kernels::everyState, k -> k.exit(LEAST));
        check.noPlace("the greatest", Kernels::everyState, k -> k.exit(GREATEST));
        check.sentence("15", "if it is DEAD");
        check.noState("DEAD", Kernels::everyState, k -> k.exit(3));
        check.noState("dead while it was WAITING", ThreadsEdgesTest::diedWaiting, k -> k.exit(1));
    }

    private static void promise16StartsAnew() {
        check.sentence("16", "it is RUNNING, with the priority 0 and without a result");
        for (int thread = 0; thread < 8; thread++) {
            FutexKernel kernel = new FutexKernel();
            kernel.setPriority(thread, 9);
            kernel.await(thread, 0, 0, 1, 0);
            kernel.interrupt(thread);
            kernel.await(thread, 0, 0, 1, 5);
            kernel.exit(thread);
            kernel.start(thread);
            check.due("state of " + thread, kernel.stateOf(thread), FutexKernel.RUNNING);
            check.due("address", kernel.addressOf(thread), FutexKernel.NONE);
            check.due("result", kernel.resultOf(thread), FutexKernel.NONE);
            check.due("serial", kernel.serialOf(thread), 0);
            check.due("no deadline", kernel.nextTimeout(), FutexKernel.NONE);
            check.due("priority", kernel.setPriority(thread, 0), 0);
            kernel.await(thread, 0, 0, 1, 0);
            kernel.interrupt(thread);
            check.due("the next serial, no new count", kernel.serialOf(thread), 2);
        }
    }

    private static void promise16Refused() {
        check.sentence("16", "if there is no such thread");
        check.noPlace("-1", Kernels::everyState, k -> k.start(-1));
        check.noPlace("8", Kernels::everyState, k -> k.start(8));
        check.noPlace("the least", Kernels::everyState, k -> k.start(LEAST));
        check.noPlace("the greatest", Kernels::everyState, k -> k.start(GREATEST));
    }

    private static void promise16NotDead() {
        check.sentence("16", "if it is not DEAD");
        check.noState("RUNNING", Kernels::everyState, k -> k.start(0));
        check.noState("RUNNING, with a result", Kernels::everyState, k -> k.start(5));
        check.noState("WAITING", Kernels::everyState, k -> k.start(1));
        check.noState("LOCKING", Kernels::everyState, k -> k.start(6));
        check.noState("a new object", FutexKernel::new, k -> k.start(0));
        check.noState("started already", ThreadsEdgesTest::started, k -> k.start(3));
    }

    private static FutexKernel started() {
        FutexKernel kernel = Kernels.everyState();
        kernel.start(3);
        return kernel;
    }

    private static void promise17ReturnsThePriorityBefore() {
        check.sentence("17", "Returns the priority before.");
        FutexKernel kernel = new FutexKernel();
        for (int priority = 0; priority <= 9; priority++) {
            check.due("before " + priority, kernel.setPriority(7, priority), Math.max(0, priority - 1));
            check.due("the same again", kernel.setPriority(7, priority), priority);
        }
        check.due("the greatest", kernel.setPriority(7, 0), 9);
        check.due("of another", kernel.setPriority(6, 9), 0);
    }

    private static void promise17IfItChanges() {
        check.sentence("17", "If it changes and the thread is in a queue");
        check.unchanged("the same, WAITING", Kernels::everyState, k -> k.setPriority(1, 3));
        check.unchanged("the same, LOCKING", Kernels::everyState, k -> k.setPriority(6, 9));
        check.unchanged("the same, the first of a full queue", Kernels::allWaiting, k -> k.setPriority(7, 0));
        check.unchanged("the same, the last of a full queue", Kernels::allWaiting, k -> k.setPriority(0, 0));
        check.unchanged("the same, RUNNING", Kernels::everyState, k -> k.setPriority(0, 2));
    }

    private static void promise17LeavesAndJoinsAnew() {
        check.sentence("17", "it leaves that and joins it anew");
        FutexKernel kernel = Kernels.allWaiting();
        check.due("up to the greatest", kernel.setPriority(0, 9), 0);
        check.due("behind the one that has it", kernel.queueAt(2, 1), 0);
        check.due("that one is first", kernel.queueAt(2, 0), 4);
        kernel.setPriority(4, 8);
        check.due("a step down", kernel.queueAt(2, 0), 0);
        check.due("one place behind", kernel.queueAt(2, 1), 4);
        kernel.setPriority(7, 1);
        kernel.setPriority(7, 0);
        check.due("up and down again: the last", kernel.queueAt(2, 7), 7);
        kernel.setPriority(0, 0);
        check.due("down to the least: the last", kernel.queueAt(2, 7), 0);
        check.due("before it", kernel.queueAt(2, 6), 7);
        check.due("the same address", kernel.addressOf(0), 5);
        check.due("all are there", kernel.waiters(5), 8);
    }

    private static void promise17ItsWaitDoesNotEnd() {
        check.sentence("17", "its wait does not end by that");
        FutexKernel kernel = Kernels.everyState();
        kernel.setPriority(2, 9);
        kernel.setPriority(1, 0);
        check.due("LOCKING", kernel.stateOf(2), FutexKernel.LOCKING);
        check.due("no result", kernel.resultOf(2), FutexKernel.NONE);
        check.due("bit 31 stays", kernel.word(Kernels.LOCKED), WAITERS | 1);
        check.due("WAITING", kernel.stateOf(1), FutexKernel.WAITING);
        check.due("its mask stays: no bit of it", kernel.wake(0, Kernels.FULL, 8, 255 - 6), 0);
        check.due("the deadlines stay", kernel.tick(39), 1);
        check.due("and their order", kernel.tick(1), 2);
        check.due("the first that began", kernel.serialOf(1), 3);
        check.due("the second", kernel.serialOf(2), 4);
        FutexKernel one = new FutexKernel();
        one.lock(0, 0, 0);
        one.lock(1, 0, 0);
        one.setPriority(1, 9);
        check.due("the only one LOCKING", one.word(0), WAITERS | 1);
    }

    private static void promise17NotInAQueue() {
        check.sentence("17", "Changes the priority of a thread.");
        FutexKernel kernel = new FutexKernel();
        kernel.setPriority(7, 9);
        check.due("RUNNING: in no queue", kernel.queueAt(0, 0), FutexKernel.NONE);
        check.due("state", kernel.stateOf(7), FutexKernel.RUNNING);
        kernel.await(0, 0, 0, 1, 0);
        kernel.await(7, 0, 0, 1, 0);
        check.due("it counts when it joins", kernel.queueAt(0, 0), 7);
        kernel.interrupt(7);
        check.due("it outlives the wait", kernel.setPriority(7, 9), 9);
    }

    private static void promise17Refused() {
        check.sentence("17", "if there is no such thread");
        check.noPlace("-1, and priority", Kernels::everyState, k -> k.setPriority(-1, 10));
        check.noPlace("8", Kernels::everyState, k -> k.setPriority(8, 0));
        check.sentence("17", "if priority is out of range");
        check.noArgument("-1", Kernels::everyState, k -> k.setPriority(1, -1));
        check.noArgument("10", Kernels::everyState, k -> k.setPriority(1, 10));
        check.noArgument("the least", Kernels::everyState, k -> k.setPriority(0, LEAST));
        check.noArgument("the greatest", Kernels::everyState, k -> k.setPriority(0, GREATEST));
        check.noArgument("and DEAD", Kernels::everyState, k -> k.setPriority(3, -1));
        check.sentence("17", "if the thread is DEAD");
        check.noState("another", Kernels::everyState, k -> k.setPriority(3, 9));
        check.noState("the same", Kernels::everyState, k -> k.setPriority(3, 2));
        check.noState("that of one started anew", Kernels::everyState, k -> k.setPriority(3, 0));
    }

    private static void promise18TickByTick() {
        check.sentence("18", "Lets time go on, tick by tick.");
        FutexKernel kernel = new FutexKernel();
        for (int thread = 0; thread < 8; thread++) {
            kernel.await(thread, 0, 0, 1, 1000 - thread);
        }
        check.due("all, in one call", kernel.tick(1000), 8);
        for (int thread = 0; thread < 8; thread++) {
            check.due("the earlier tick first, " + thread, kernel.serialOf(thread), 8 - thread);
        }
        check.due("the time", kernel.now(), 1000);
    }

    private static void promise18HowManyTicks() {
        check.sentence("18", "1 to 1000");
        FutexKernel kernel = new FutexKernel();
        kernel.await(0, 0, 0, 1, 1002);
        kernel.tick(1);
        check.due("1", kernel.now(), 1);
        kernel.tick(1000);
        check.due("1000", kernel.now(), 1001);
        check.due("not yet", kernel.stateOf(0), FutexKernel.WAITING);
        check.due("one more", kernel.tick(1), 1);
    }

    private static void promise18HowManyEnded() {
        check.sentence("18", "Returns how many waits ended with TIMED_OUT.");
        check.due("of nobody", new FutexKernel().tick(1000), 0);
        check.due("without deadlines", Kernels.allWaiting().tick(1000), 0);
        for (int count = 1; count <= 8; count++) {
            FutexKernel kernel = new FutexKernel();
            for (int thread = 0; thread < count; thread++) {
                kernel.await(thread, thread, 0, 1, 3);
            }
            check.due("the tick before", kernel.tick(2), 0);
            check.due("of " + count, kernel.tick(1), count);
            check.due("the tick behind", kernel.tick(1), 0);
        }
        FutexKernel kernel = Kernels.everyState();
        check.due("one of them", kernel.tick(39), 1);
        check.due("WAITING and LOCKING", kernel.tick(1), 2);
        check.due("those without stay", kernel.stateOf(6), FutexKernel.LOCKING);
        check.due("bit 31 is that of the other one", kernel.word(Kernels.LOCKED), WAITERS | 1);
    }

    private static void promise18LateInTime() {
        check.sentence("18", "Lets time go on");
        FutexKernel kernel = new FutexKernel();
        for (int times = 0; times < 490; times++) {
            kernel.tick(1000);
        }
        check.due("late", kernel.now(), 490000);
        kernel.await(0, 0, 0, 1, 10000);
        check.due("a deadline from then on", kernel.nextTimeout(), 10000);
        for (int times = 0; times < 9; times++) {
            kernel.tick(1000);
        }
        check.due("not yet", kernel.tick(999), 0);
        check.due("at last", kernel.tick(1), 1);
        check.due("the time", kernel.now(), 500000);
    }

    private static void promise18Refused() {
        check.sentence("18", "if ticks is out of range");
        check.noArgument("0", Kernels::everyState, k -> k.tick(0));
        check.noArgument("-1", Kernels::everyState, k -> k.tick(-1));
        check.noArgument("1001", Kernels::everyState, k -> k.tick(1001));
        check.noArgument("the least", Kernels::everyState, k -> k.tick(LEAST));
        check.noArgument("the greatest", Kernels::everyState, k -> k.tick(GREATEST));
    }
}
