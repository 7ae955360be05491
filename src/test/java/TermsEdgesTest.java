/** What 'Terms' says of threads, queues, deadlines and locks: a test for each sentence that has an edge. */
public final class TermsEdgesTest {
    private static final int DIED = 1 << 30;
    private static final int WAITERS = 1 << 31;
    private static final int OTHER_BITS = 0x3FFFFF00;
    private static final Check check = new Check();

    public static void main(String[] args) {
        timeGoesOnByTickAlone();
        firstAndLastOfEach();
        wordsHave32Bits();
        eachPriorityIsAheadOfTheOneBelow();
        joinsBehindAllOthersWithTheSamePriority();
        fullQueue();
        threadsAtAnAddress();
        bucketsOfAllAddresses();
        afterEachWayToEnd();
        serialsFromOneOn();
        endsOneAfterTheOther();
        endsInTheNthTick();
        ifItHasNotEndedBefore();
        theOneThatBeganFirst();
        movingBeginsNoNewWait();
        lowestEightBits();
        gottenLockIsTheLast();
        gottenLockKeepsItsPlace();
        overwrittenWordsLeaveTheLists();
        passedOnToTheFirst();
        passedOnToNobody();
        passedOnFromTheDead();
        bit31OfTheLastLocker();
        bit31WhileAnotherIsLocking();
        bit31AndThoseElsewhere();
        bit31StaysOtherwise();
        check.end("TermsEdgesTest");
    }

    private static void timeGoesOnByTickAlone() {
        check.sentence("Terms", "time goes on by tick alone");
        FutexKernel kernel = Kernels.everyState();
        kernel.store(0, 1, 5);
        kernel.compareAndSet(0, 1, 5, 6);
        kernel.fetchAdd(0, 1, 1);
        kernel.await(5, 1, 7, 1, 9);
        kernel.wake(0, 1, 8, 255);
        kernel.requeue(0, Kernels.FULL, 0, 0, 2, 8);
        kernel.lock(7, 3, 10000);
        kernel.unlock(0, 4);
        kernel.interrupt(6);
        kernel.exit(0);
        kernel.start(0);
        kernel.setPriority(2, 8);
        check.due("now", kernel.now(), 3);
        check.due("the next deadline", kernel.nextTimeout(), 7);
        kernel.tick(1);
        check.due("now", kernel.now(), 4);
    }

    private static void firstAndLastOfEach() {
        check.sentence("Terms", "There are the threads 0 to 7, the addresses 0 to 15, each with a word of 32 bits,"
                + " and the buckets 0 to 3.");
        FutexKernel kernel = new FutexKernel();
        kernel.await(0, 0, 0, 1, 0);
        kernel.await(7, 15, 0, 1, 0);
        kernel.await(6, 12, 0, 1, 0);
        check.due("the first thread", kernel.addressOf(0), 0);
        check.due("the last thread", kernel.addressOf(7), 15);
        check.due("the first bucket", kernel.queueAt(0, 0), 0);
        check.due("the last bucket", kernel.queueAt(3, 0), 6);
        check.due("the bucket of the last address", kernel.queueAt(2, 0), 7);
        check.noPlace("thread 8", Kernels::everyState, k -> k.stateOf(8));
        check.noPlace("thread -1", Kernels::everyState, k -> k.stateOf(-1));
        check.noPlace("address 16", Kernels::everyState, k -> k.word(16));
        check.noPlace("address -1", Kernels::everyState, k -> k.word(-1));
        check.noPlace("bucket 4", Kernels::everyState, k -> k.queueAt(4, 0));
        check.noPlace("bucket -1", Kernels::everyState, k -> k.queueAt(-1, 0));
    }

    private static void wordsHave32Bits() {
        check.sentence("Terms", "each with a word of 32 bits");
        FutexKernel kernel = new FutexKernel();
        for (int bit = 0; bit < 32; bit++) {
            kernel.store(0, bit % 16, 1 << bit);
            check.due("bit " + bit, kernel.word(bit % 16), 1 << bit);
        }
    }

    private static void eachPriorityIsAheadOfTheOneBelow() {
        check.sentence("Terms", "It has a priority from 0 to 9.");
        for (int priority = 0; priority < 9; priority++) {
            FutexKernel kernel = new FutexKernel();
            kernel.setPriority(1, priority);
            kernel.setPriority(2, priority + 1);
            kernel.await(1, 0, 0, 1, 0);
            kernel.await(2, 0, 0, 1, 0);
            check.due("first of " + priority + " and the next", kernel.queueAt(0, 0), 2);
            check.due("second", kernel.queueAt(0, 1), 1);
        }
        check.noArgument("10", Kernels::everyState, k -> k.setPriority(0, 10));
        check.noArgument("-1", Kernels::everyState, k -> k.setPriority(0, -1));
    }

    private static void joinsBehindAllOthersWithTheSamePriority() {
        check.sentence("Terms", "The threads of a queue are ordered by their priorities, the greatest first;"
                + " a thread joins it behind all others with the same priority.");
        FutexKernel kernel = new FutexKernel();
        int[] priorities = {0, 9, 4, 9, 0, 4, 9, 0};
        for (int thread = 7; thread >= 0; thread--) {
            kernel.setPriority(thread, priorities[thread]);
            kernel.await(thread, thread % 2 == 0 ? 0 : 13, 0, 1, 0);
        }
        queueIs(kernel, 0, 6, 3, 1, 5, 2, 7, 4, 0);
        kernel.interrupt(1);
        kernel.await(1, 7, 0, 1, 0);
        queueIs(kernel, 0, 6, 3, 1, 5, 2, 7, 4, 0);
        kernel.interrupt(6);
        kernel.await(6, 7, 0, 1, 0);
        queueIs(kernel, 0, 3, 1, 6, 5, 2, 7, 4, 0);
    }

    private static void fullQueue() {
        check.sentence("Terms", "A thread that is WAITING or LOCKING is in one queue,"
                + " that of the bucket of its address");
        FutexKernel kernel = Kernels.allWaiting();
        queueIs(kernel, 2, 4, 7, 6, 5, 3, 2, 1, 0);
        check.due("no other queue", kernel.queueAt(0, 0), FutexKernel.NONE);
        check.due("all are at the address", kernel.waiters(5), 8);
        kernel.interrupt(7);
        kernel.interrupt(0);
        queueIs(kernel, 2, 4, 6, 5, 3, 2, 1);
        kernel.await(0, 5, 0, 1, 0);
        queueIs(kernel, 2, 4, 6, 5, 3, 2, 1, 0);
        for (int thread = 0; thread < 7; thread++) {
            kernel.interrupt(thread);
        }
        queueIs(kernel, 2);
    }

    private static void threadsAtAnAddress() {
        check.sentence("Terms", "The threads at an address are those of its bucket's queue with this address,"
                + " in the order of the queue.");
        FutexKernel kernel = new FutexKernel();
        int[] addresses = {0, 7, 10, 13};
        for (int thread = 0; thread < 8; thread++) {
            kernel.await(thread, addresses[thread % 4], 0, 1, 0);
        }
        kernel.setPriority(7, 1);
        queueIs(kernel, 0, 7, 0, 1, 2, 3, 4, 5, 6);
        for (int place = 0; place < 3; place++) {
            check.due("first at " + addresses[place], kernel.waiterAt(addresses[place], 0), place);
            check.due("second at " + addresses[place], kernel.waiterAt(addresses[place], 1), place + 4);
        }
        check.due("first at 13", kernel.waiterAt(13, 0), 7);
        check.due("second at 13", kernel.waiterAt(13, 1), 3);
    }

    private static void bucketsOfAllAddresses() {
        check.sentence("Terms", "the bucket of the address a is the remainder of a and a divided by 4"
                + " (rounded down), together, by 4");
        int[] buckets = {0, 1, 2, 3, 1, 2, 3, 0, 2, 3, 0, 1, 3, 0, 1, 2};
        for (int address = 0; address < 16; address++) {
            FutexKernel kernel = new FutexKernel();
            kernel.lock(0, address, 0);
            kernel.lock(1, address, 0);
            check.due("address " + address, kernel.queueAt(buckets[address], 0), 1);
            check.due("in no other", kernel.queueAt((buckets[address] + 1) % 4, 0), FutexKernel.NONE);
        }
    }

    private static void afterEachWayToEnd() {
        check.sentence("Terms", "A wait ends with one of the results below; the thread leaves its queue then"
                + " and is RUNNING.");
        for (int result = FutexKernel.WOKEN; result <= FutexKernel.OWNER_DIED; result++) {
            FutexKernel kernel = new FutexKernel();
            endOne(kernel, result);
            check.due("the result", kernel.resultOf(1), result);
            check.due("state", kernel.stateOf(1), FutexKernel.RUNNING);
            check.due("address", kernel.addressOf(1), FutexKernel.NONE);
            check.due("at the address", kernel.waiters(6), 0);
            check.due("in the queue", kernel.queueAt(3, 0), FutexKernel.NONE);
            check.due("deadline", kernel.nextTimeout(), FutexKernel.NONE);
            check.due("it can go on", kernel.store(1, 2, 5), 0);
            check.due("and wait again", kernel.await(1, 6, kernel.word(6), 1, 0), true);
        }
    }

    /** Lets the only wait of 1, at the address 6, end with the result; 0 is the owner of the lock there. */
    private static void endOne(FutexKernel kernel, int result) {
        kernel.lock(0, 6, 0);
        if (result == FutexKernel.HANDED || result == FutexKernel.OWNER_DIED) {
            kernel.lock(1, 6, 4);
        } else {
            kernel.await(1, 6, 1, 1, 4);
        }
        switch (result) {
            case FutexKernel.WOKEN: kernel.wake(0, 6, 1, 1); break;
            case FutexKernel.TIMED_OUT: kernel.tick(4); break;
            case FutexKernel.INTERRUPTED: kernel.interrupt(1); break;
            case FutexKernel.HANDED: kernel.unlock(0, 6); break;
            default: kernel.exit(0); break;
        }
    }

    private static void serialsFromOneOn() {
        check.sentence("Terms", "Each end of a wait gets the next serial number, from 1 on, whichever thread it is.");
        FutexKernel kernel = new FutexKernel();
        kernel.await(7, 0, 0, 1, 0);
        check.due("none has ended", kernel.serialOf(7), 0);
        kernel.interrupt(7);
        check.due("the first", kernel.serialOf(7), 1);
        kernel.await(7, 0, 0, 1, 1);
        kernel.tick(1);
        check.due("the same thread again", kernel.serialOf(7), 2);
        kernel.await(0, 0, 0, 1, 0);
        kernel.wake(7, 0, 1, 1);
        check.due("woken", kernel.serialOf(0), 3);
        kernel.lock(0, 1, 0);
        kernel.lock(3, 1, 0);
        kernel.unlock(0, 1);
        check.due("handed", kernel.serialOf(3), 4);
        kernel.lock(0, 1, 0);
        kernel.exit(3);
        check.due("the owner died", kernel.serialOf(0), 5);
        kernel.start(3);
        kernel.await(3, 0, 0, 1, 0);
        kernel.interrupt(3);
        check.due("one that was started anew", kernel.serialOf(3), 6);
        for (int count = 7; count < 200; count++) {
            kernel.await(2, 2, 0, 1, 0);
            kernel.interrupt(2);
        }
        check.due("many more", kernel.serialOf(2), 199);
        check.due("of others they stay", kernel.serialOf(0), 5);
    }

    private static void endsOneAfterTheOther() {
        check.sentence("Terms", "If threads' waits end in one call, they end one after the other, as told there.");
        FutexKernel woken = Kernels.allWaiting();
        woken.interrupt(5);
        woken.wake(5, 5, 8, 255);
        serialsAre(woken, 8, 7, 6, 5, 2, 1, 4, 3);
        FutexKernel requeued = Kernels.allWaiting();
        requeued.interrupt(5);
        requeued.requeue(5, 5, 0, 8, 0, 0);
        serialsAre(requeued, 8, 7, 6, 5, 2, 1, 4, 3);
        FutexKernel timedOut = new FutexKernel();
        for (int thread = 0; thread < 8; thread++) {
            timedOut.await(thread, thread, 0, 1, 1 + (7 - thread) / 2);
        }
        timedOut.tick(4);
        serialsAre(timedOut, 7, 8, 5, 6, 3, 4, 1, 2);
        FutexKernel died = new FutexKernel();
        for (int thread = 1; thread < 8; thread++) {
            died.lock(0, 8 - thread, 0);
            died.lock(thread, 8 - thread, 0);
        }
        died.exit(0);
        serialsAre(died, 0, 1, 2, 3, 4, 5, 6, 7);
    }

    private static void endsInTheNthTick() {
        check.sentence("Terms", "A wait with a timeout of n ticks ends with TIMED_OUT in the n-th tick from then on");
        int[] timeouts = {1, 2, 999, 1000, 1001, 9999, 10000};
        for (int timeout : timeouts) {
            FutexKernel kernel = new FutexKernel();
            kernel.tick(5);
            kernel.lock(0, 0, timeout);
            kernel.lock(1, 0, timeout);
            kernel.await(2, 1, 0, 1, timeout);
            tickAll(kernel, timeout - 1);
            check.due("LOCKING before, of " + timeout, kernel.stateOf(1), FutexKernel.LOCKING);
            check.due("WAITING before, of " + timeout, kernel.stateOf(2), FutexKernel.WAITING);
            check.due("next", kernel.nextTimeout(), 1);
            check.due("both in the last tick of " + timeout, kernel.tick(1), 2);
            check.due("LOCKING", kernel.resultOf(1), FutexKernel.TIMED_OUT);
            check.due("WAITING", kernel.resultOf(2), FutexKernel.TIMED_OUT);
        }
    }

    private static void ifItHasNotEndedBefore() {
        check.sentence("Terms", "if it has not ended before");
        for (int result = FutexKernel.WOKEN; result <= FutexKernel.OWNER_DIED; result++) {
            FutexKernel kernel = new FutexKernel();
            endOne(kernel, result);
            check.due("no wait, no end", kernel.tick(4), 0);
            check.due("the result stays", kernel.resultOf(1), result);
            kernel.await(1, 2, 0, 1, 0);
            check.due("the old deadline is not that of the next wait", kernel.tick(1000), 0);
            check.due("serial", kernel.serialOf(1), 1);
        }
        FutexKernel kernel = new FutexKernel();
        kernel.await(1, 0, 0, 1, 2);
        kernel.exit(1);
        check.due("one that died", kernel.tick(2), 0);
        check.due("no result", kernel.resultOf(1), FutexKernel.NONE);
    }

    private static void theOneThatBeganFirst() {
        check.sentence("Terms", "If the waits of several threads end in the same tick,"
                + " the one that began to wait first is first");
        FutexKernel kernel = new FutexKernel();
        kernel.lock(0, 1, 0);
        kernel.await(7, 0, 0, 1, 100);
        kernel.tick(90);
        kernel.setPriority(1, 9);
        kernel.lock(6, 1, 10);
        kernel.tick(9);
        kernel.await(5, 1, kernel.word(1), 1, 1);
        kernel.lock(1, 1, 1);
        kernel.setPriority(7, 4);
        kernel.setPriority(7, 0);
        kernel.interrupt(5);
        kernel.await(5, 2, 0, 1, 1);
        check.due("all in one tick", kernel.tick(1), 4);
        check.due("the first, long ago", kernel.serialOf(7), 2);
        check.due("the second", kernel.serialOf(6), 3);
        check.due("the third, with the greatest priority", kernel.serialOf(1), 4);
        check.due("the last, which began anew", kernel.serialOf(5), 5);
    }

    private static void movingBeginsNoNewWait() {
        check.sentence("Terms", "being moved to another address does not begin a new wait");
        FutexKernel kernel = new FutexKernel();
        kernel.await(3, 0, 0, 1, 4);
        kernel.await(2, 1, 0, 1, 4);
        kernel.await(1, 0, 0, 1, 4);
        kernel.tick(2);
        check.due("two are moved", kernel.requeue(0, 0, 0, 0, 1, 8), 2);
        check.due("and moved back", kernel.requeue(0, 1, 0, 0, 0, 8), 3);
        check.due("the order there", kernel.waiterAt(0, 0), 2);
        check.due("the deadlines stay", kernel.nextTimeout(), 2);
        check.due("all end", kernel.tick(2), 3);
        serialsAre(kernel, 0, 3, 2, 1, 0, 0, 0, 0);
    }

    private static void lowestEightBits() {
        check.sentence("Terms", "its lowest 8 bits are the owner, 0 for none, or 1 more than the number of a thread");
        FutexKernel kernel = new FutexKernel();
        for (int thread = 0; thread < 8; thread++) {
            kernel.store(thread, thread, OTHER_BITS | thread + 1);
            check.due("owner " + thread, kernel.unlock(thread, thread), FutexKernel.NONE);
        }
        kernel.store(0, 8, OTHER_BITS);
        check.due("none", kernel.lock(0, 8, 0), FutexKernel.ACQUIRED);
        kernel.store(0, 8, OTHER_BITS | 9);
        check.due("one more than there are", kernel.lock(0, 8, 0), FutexKernel.NO_OWNER);
        kernel.store(0, 8, OTHER_BITS | 255);
        check.due("all of them", kernel.lock(0, 8, 0), FutexKernel.NO_OWNER);
        kernel.store(0, 8, 256);
        check.due("the ninth is not one of them", kernel.lock(0, 8, 0), FutexKernel.ACQUIRED);
        kernel.store(0, 8, 128 | 1);
        check.due("the eighth is", kernel.lock(0, 8, 0), FutexKernel.NO_OWNER);
        for (int owner = 1; owner <= 8; owner++) {
            FutexKernel other = new FutexKernel();
            other.store(0, 0, owner);
            int caller = owner % 8;
            check.due("owner " + owner, other.lock(caller, 0, 0), FutexKernel.MUST_WAIT);
            check.due("it blocks one", other.blockedBy(owner - 1), 1);
        }
    }

    private static void gottenLockIsTheLast() {
        check.sentence("Terms", "Whoever gets a lock has the address at the end of its own list of locks");
        FutexKernel kernel = new FutexKernel();
        listIs(kernel, 1);
        kernel.lock(1, 9, 0);
        listIs(kernel, 1, 9);
        kernel.lock(0, 4, 0);
        kernel.lock(0, 2, 0);
        kernel.lock(1, 4, 0);
        listIs(kernel, 1, 9);
        kernel.unlock(0, 4);
        listIs(kernel, 1, 9, 4);
        kernel.lock(1, 2, 0);
        kernel.exit(0);
        listIs(kernel, 1, 9, 4, 2);
        kernel.store(3, 15, DIED);
        kernel.lock(1, 15, 0);
        listIs(kernel, 1, 9, 4, 2, 15);
    }

    private static void gottenLockKeepsItsPlace() {
        check.sentence("Terms", "unless it is in the list already");
        FutexKernel kernel = new FutexKernel();
        kernel.lock(1, 9, 0);
        kernel.lock(1, 4, 0);
        kernel.store(0, 9, 0);
        check.due("taken again", kernel.lock(1, 9, 0), FutexKernel.ACQUIRED);
        listIs(kernel, 1, 9, 4);
        kernel.store(0, 9, 0);
        kernel.lock(0, 9, 0);
        kernel.lock(1, 9, 0);
        check.due("handed over again", kernel.unlock(0, 9), 1);
        listIs(kernel, 1, 9, 4);
        kernel.store(0, 9, 0);
        kernel.lock(0, 9, 0);
        kernel.lock(1, 9, 0);
        check.due("from the dead", kernel.exit(0), 1);
        check.due("the result", kernel.resultOf(1), FutexKernel.OWNER_DIED);
        listIs(kernel, 1, 9, 4);
        FutexKernel full = Kernels.allLocked();
        full.store(0, 7, 0);
        check.due("in a full list", full.lock(0, 7, 0), FutexKernel.ACQUIRED);
        check.due("its length", full.locks(0), 16);
        check.due("its place", full.lockAt(0, 8), 7);
    }

    private static void overwrittenWordsLeaveTheLists() {
        check.sentence("Terms", "A word can be overwritten at any time, lock or not;"
                + " the lists do not change by that.");
        FutexKernel kernel = new FutexKernel();
        kernel.lock(0, 9, 0);
        kernel.lock(0, 4, 0);
        kernel.lock(2, 9, 0);
        check.due("store", kernel.store(1, 9, 0), WAITERS | 1);
        check.due("compareAndSet", kernel.compareAndSet(1, 4, 1, 2), true);
        check.due("fetchAdd", kernel.fetchAdd(1, 9, 8), 0);
        listIs(kernel, 0, 9, 4);
        listIs(kernel, 1);
        listIs(kernel, 7);
        check.due("the one LOCKING stays", kernel.waiterAt(9, 0), 2);
        check.due("bit 31 does not come back", kernel.word(9), 8);
        check.due("an owner without a list", kernel.unlock(1, 4), FutexKernel.NONE);
        listIs(kernel, 0, 9, 4);
        check.due("a lock handed on by such an owner", kernel.unlock(7, 9), 2);
        listIs(kernel, 2, 9);
        listIs(kernel, 0, 9, 4);
    }

    private static void passedOnToTheFirst() {
        check.sentence("Terms", "the first of them becomes the owner: the word is its number and 1,"
                + " with WAITERS if others are LOCKING there still");
        FutexKernel kernel = new FutexKernel();
        kernel.lock(0, 6, 0);
        for (int thread = 1; thread < 8; thread++) {
            kernel.setPriority(thread, thread % 2 == 0 ? 9 : 0);
            kernel.lock(thread, 6, 0);
        }
        int[] order = {2, 4, 6, 1, 3, 5, 7};
        int owner = 0;
        for (int place = 0; place < order.length; place++) {
            kernel.store(owner, 6, OTHER_BITS | DIED | WAITERS | owner + 1);
            check.due("next", kernel.unlock(owner, 6), order[place]);
            owner = order[place];
            check.due("word", kernel.word(6), (place < 6 ? WAITERS : 0) | owner + 1);
            check.due("result", kernel.resultOf(owner), FutexKernel.HANDED);
            check.due("serial", kernel.serialOf(owner), place + 1);
            check.due("list", kernel.lockAt(owner, 0), 6);
        }
    }

    private static void passedOnToNobody() {
        check.sentence("Terms", "If there are none, the word becomes 0.");
        FutexKernel kernel = new FutexKernel();
        kernel.store(0, 6, -256 | 1);
        kernel.await(1, 6, kernel.word(6), 1, 0);
        kernel.lock(2, 10, 0);
        kernel.lock(3, 10, 0);
        check.due("one WAITING there, one LOCKING elsewhere", kernel.unlock(0, 6), FutexKernel.NONE);
        check.due("word", kernel.word(6), 0);
        check.due("the one WAITING", kernel.stateOf(1), FutexKernel.WAITING);
        check.due("the one LOCKING", kernel.stateOf(3), FutexKernel.LOCKING);
    }

    private static void passedOnFromTheDead() {
        check.sentence("Terms", "If a lock is passed on because its owner has died, DIED is set in the new word, too,"
                + " and the result is OWNER_DIED.");
        FutexKernel kernel = new FutexKernel();
        for (int address = 0; address < 3; address++) {
            kernel.lock(0, address, 0);
            kernel.fetchAdd(0, address, 0x5000);
        }
        kernel.lock(1, 0, 0);
        kernel.lock(2, 1, 0);
        kernel.lock(3, 1, 0);
        kernel.exit(0);
        check.due("one LOCKING", kernel.word(0), DIED | 2);
        check.due("two LOCKING", kernel.word(1), DIED | WAITERS | 3);
        check.due("nobody LOCKING", kernel.word(2), DIED);
        check.due("result", kernel.resultOf(1), FutexKernel.OWNER_DIED);
        check.due("result", kernel.resultOf(2), FutexKernel.OWNER_DIED);
        check.due("of the other none", kernel.resultOf(3), FutexKernel.NONE);
        kernel.unlock(2, 1);
        check.due("given back by one alive", kernel.word(1), 4);
        check.due("result", kernel.resultOf(3), FutexKernel.HANDED);
    }

    private static void bit31OfTheLastLocker() {
        check.sentence("Terms", "If the wait of a thread that is LOCKING ends in any other way, or the thread dies,"
                + " and no other thread is LOCKING at the address, bit 31 of the word is cleared.");
        for (int way = 0; way < 3; way++) {
            FutexKernel kernel = new FutexKernel();
            kernel.store(0, 3, -256 | 1);
            kernel.lock(1, 3, 7);
            endLocking(kernel, way, 1);
            check.due("alone, way " + way, kernel.word(3), 0x7FFFFF01);
            kernel.lock(2, 3, 7);
            kernel.store(0, 3, 0);
            endLocking(kernel, way, 2);
            check.due("cleared already, way " + way, kernel.word(3), 0);
            kernel.lock(0, 3, 0);
            kernel.lock(3, 3, 7);
            kernel.store(0, 3, WAITERS);
            endLocking(kernel, way, 3);
            check.due("no lock any more, way " + way, kernel.word(3), 0);
        }
    }

    private static void bit31WhileAnotherIsLocking() {
        check.sentence("Terms", "and no other thread is LOCKING at the address");
        for (int way = 0; way < 3; way++) {
            FutexKernel kernel = new FutexKernel();
            kernel.lock(0, 3, 0);
            kernel.lock(1, 3, 7);
            kernel.lock(2, 3, 8);
            kernel.lock(4, 3, 0);
            endLocking(kernel, way, 1);
            check.due("two others, way " + way, kernel.word(3), WAITERS | 1);
            endLocking(kernel, way, 2);
            check.due("one other, way " + way, kernel.word(3), WAITERS | 1);
            kernel.interrupt(4);
            check.due("no other", kernel.word(3), 1);
        }
        FutexKernel kernel = new FutexKernel();
        kernel.lock(0, 3, 0);
        kernel.lock(1, 3, 7);
        kernel.lock(2, 3, 7);
        check.due("both in one tick", kernel.tick(7), 2);
        check.due("the second was the last", kernel.word(3), 1);
    }

    private static void bit31AndThoseElsewhere() {
        check.sentence("Terms", "no other thread is LOCKING at the address");
        for (int way = 0; way < 3; way++) {
            FutexKernel kernel = new FutexKernel();
            kernel.lock(0, 6, 0);
            kernel.lock(0, 3, 0);
            kernel.lock(1, 6, 7);
            kernel.lock(2, 3, 0);
            kernel.await(4, 6, kernel.word(6), 1, 0);
            endLocking(kernel, way, 1);
            check.due("one LOCKING in the same bucket, one WAITING there, way " + way, kernel.word(6), 1);
            check.due("the other word, way " + way, kernel.word(3), WAITERS | 1);
        }
    }

    private static void bit31StaysOtherwise() {
        check.sentence("Terms", "If the wait of a thread that is LOCKING ends");
        for (int way = 0; way < 3; way++) {
            FutexKernel kernel = new FutexKernel();
            kernel.store(0, 3, -1);
            kernel.await(1, 3, -1, 1, 7);
            endLocking(kernel, way, 1);
            check.due("one WAITING, way " + way, kernel.word(3), -1);
        }
        FutexKernel kernel = new FutexKernel();
        kernel.lock(0, 3, 0);
        kernel.lock(1, 3, 0);
        int word = kernel.word(3);
        kernel.await(2, 3, word, 1, 0);
        kernel.await(4, 3, word, 1, 0);
        kernel.requeue(0, 3, word, 1, 2, 1);
        kernel.setPriority(1, 5);
        check.due("a new priority, others woken and moved", kernel.word(3), word);
    }

    /** Ends the wait of the thread, which is the next to time out. */
    private static void endLocking(FutexKernel kernel, int way, int thread) {
        switch (way) {
            case 0: kernel.interrupt(thread); break;
            case 1: kernel.exit(thread); break;
            default: kernel.tick(kernel.nextTimeout()); break;
        }
    }

    private static void tickAll(FutexKernel kernel, int ticks) {
        for (int left = ticks; left > 0; left -= 1000) {
            kernel.tick(Math.min(left, 1000));
        }
    }

    private static void queueIs(FutexKernel kernel, int bucket, int... threads) {
        for (int place = 0; place < threads.length; place++) {
            check.due("place " + place, kernel.queueAt(bucket, place), threads[place]);
        }
        check.due("behind them", kernel.queueAt(bucket, threads.length), FutexKernel.NONE);
    }

    private static void serialsAre(FutexKernel kernel, int... serials) {
        for (int thread = 0; thread < serials.length; thread++) {
            check.due("serial of " + thread, kernel.serialOf(thread), serials[thread]);
        }
    }

    private static void listIs(FutexKernel kernel, int thread, int... addresses) {
        check.due("locks of " + thread, kernel.locks(thread), addresses.length);
        for (int place = 0; place < addresses.length; place++) {
            check.due("lock " + place + " of " + thread, kernel.lockAt(thread, place), addresses[place]);
        }
    }
}
