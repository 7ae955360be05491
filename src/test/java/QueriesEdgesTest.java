/** Promises 19 to 27, what is asked of time, threads and queues: a test for each sentence that has an edge. */
public final class QueriesEdgesTest {
    private static final int LEAST = Integer.MIN_VALUE, GREATEST = Integer.MAX_VALUE;
    private static final int[] NO_THREADS = {-1, 8, LEAST, GREATEST, 32, -8};
    private static final int[] NO_ADDRESSES = {-1, 16, LEAST, GREATEST, 32, -16};
    private static final Check check = new Check();

    public static void main(String[] args) {
        promise19AllTicksSoFar();
        promise20InHowManyTicks();
        promise20TheNextOne();
        promise20NoneIfNoWaitHasADeadline();
        promise21States();
        promise22Addresses();
        promise22NoneIfItIsNeither();
        promise23LatestWaitThatHasEnded();
        promise23NoneSinceTheBeginning();
        promise24EndOfThatWait();
        promise24ZeroIfNone();
        promises21To24Refused();
        promise25HowMany();
        promise25Refused();
        promise26InTheOrderOfTheQueue();
        promise26Refused();
        promise27Places();
        promise27NoSuchPlace();
        promise27Refused();
        check.end("QueriesEdgesTest");
    }

    private static void promise19AllTicksSoFar() {
        check.sentence("19", "Returns the time: all ticks so far.");
        FutexKernel kernel = new FutexKernel();
        check.due("none", kernel.now(), 0);
        kernel.tick(1);
        check.due("one", kernel.now(), 1);
        check.due("asking takes no time", kernel.now(), 1);
        kernel.tick(1000);
        check.due("the most at once", kernel.now(), 1001);
        check.due("a refused call", Check.thrownBy(k -> k.tick(1001), kernel), "java.lang.IllegalArgumentException");
        check.due("takes no time", kernel.now(), 1001);
        FutexKernel late = new FutexKernel();
        for (int times = 0; times < 511; times++) {
            late.tick(1000);
        }
        check.due("as late as can be", late.now(), 511000);
        check.unchanged("asking", Kernels::everyState, k -> k.now());
    }

    private static void promise20InHowManyTicks() {
        check.sentence("20", "Returns in how many ticks the next wait would time out");
        int[] timeouts = {1, 2, 1000, 10000};
        for (int timeout : timeouts) {
            FutexKernel kernel = new FutexKernel();
            kernel.tick(700);
            kernel.await(0, 0, 0, 1, timeout);
            check.due("of " + timeout, kernel.nextTimeout(), timeout);
            if (timeout > 1) {
                kernel.tick(1);
                check.due("one less", kernel.nextTimeout(), timeout - 1);
            }
        }
        FutexKernel kernel = new FutexKernel();
        kernel.await(0, 0, 0, 1, 3);
        kernel.tick(2);
        check.due("in the next tick", kernel.nextTimeout(), 1);
        check.unchanged("asking", Kernels::everyState, k -> k.nextTimeout());
    }

    private static void promise20TheNextOne() {
        check.sentence("20", "the next wait");
        FutexKernel kernel = new FutexKernel();
        for (int thread = 0; thread < 8; thread++) {
            kernel.await(thread, thread, 0, 1, 100 - thread);
            check.due("the least so far", kernel.nextTimeout(), 100 - thread);
        }
        kernel.interrupt(7);
        check.due("ended before", kernel.nextTimeout(), 94);
        kernel.exit(6);
        check.due("died", kernel.nextTimeout(), 95);
        kernel.wake(7, 5, 1, 1);
        check.due("woken", kernel.nextTimeout(), 96);
        kernel.await(7, 0, 0, 1, 97);
        check.due("a later one", kernel.nextTimeout(), 96);
        kernel.tick(96);
        check.due("timed out", kernel.nextTimeout(), 1);
    }

    private static void promise20NoneIfNoWaitHasADeadline() {
        check.sentence("20", "NONE if no wait has a deadline");
        check.due("a new object", new FutexKernel().nextTimeout(), FutexKernel.NONE);
        check.due("all wait without", Kernels.allWaiting().nextTimeout(), FutexKernel.NONE);
        check.due("all are LOCKING without", Kernels.longestChain().nextTimeout(), FutexKernel.NONE);
        FutexKernel kernel = Kernels.everyState();
        kernel.tick(39);
        kernel.interrupt(1);
        check.due("one is left", kernel.nextTimeout(), 1);
        kernel.interrupt(2);
        check.due("none is left", kernel.nextTimeout(), FutexKernel.NONE);
        kernel.await(1, 0, 0, 1, 0);
        check.due("the next wait has none", kernel.nextTimeout(), FutexKernel.NONE);
    }

    private static void promise21States() {
        check.sentence("21", "Returns RUNNING, WAITING, LOCKING or DEAD.");
        FutexKernel kernel = Kernels.everyState();
        for (int thread = 0; thread < 8; thread++) {
            check.due("thread " + thread, kernel.stateOf(thread), Kernels.STATES[thread]);
        }
        check.unchanged("asking", Kernels::everyState, k -> k.stateOf(2));
    }

    private static void promise22Addresses() {
        check.sentence("22", "Returns the address at which a thread is WAITING or LOCKING.");
        FutexKernel kernel = new FutexKernel();
        for (int address = 0; address < 16; address++) {
            kernel.await(7, address, 0, 1, 0);
            check.due("WAITING", kernel.addressOf(7), address);
            kernel.interrupt(7);
            kernel.lock(0, address, 0);
            kernel.lock(7, address, 0);
            check.due("LOCKING", kernel.addressOf(7), address);
            kernel.interrupt(7);
        }
        kernel.await(6, 0, 1, 1, 0);
        kernel.requeue(0, 0, 1, 0, 15, 1);
        check.due("moved", kernel.addressOf(6), 15);
        check.unchanged("asking", Kernels::everyState, k -> k.addressOf(1));
    }

    private static void promise22NoneIfItIsNeither() {
        check.sentence("22", "NONE if it is neither");
        FutexKernel kernel = Kernels.everyState();
        check.due("RUNNING, with locks", kernel.addressOf(0), FutexKernel.NONE);
        check.due("RUNNING, with a result", kernel.addressOf(5), FutexKernel.NONE);
        check.due("DEAD", kernel.addressOf(3), FutexKernel.NONE);
        kernel.exit(2);
        check.due("dead while it was LOCKING", kernel.addressOf(2), FutexKernel.NONE);
        kernel.unlock(0, Kernels.LOCKED);
        check.due("the lock was handed to it", kernel.addressOf(6), FutexKernel.NONE);
        kernel.tick(7);
        check.due("timed out", kernel.addressOf(4), FutexKernel.NONE);
    }

    private static void promise23LatestWaitThatHasEnded() {
        check.sentence("23", "Returns the result of the latest wait of a thread that has ended.");
        FutexKernel kernel = new FutexKernel();
        kernel.await(1, 0, 0, 1, 0);
        kernel.wake(0, 0, 1, 1);
        check.due("woken", kernel.resultOf(1), FutexKernel.WOKEN);
        kernel.await(1, 0, 0, 1, 1);
        check.due("the one that goes on has not ended", kernel.resultOf(1), FutexKernel.WOKEN);
        kernel.tick(1);
        check.due("timed out", kernel.resultOf(1), FutexKernel.TIMED_OUT);
        kernel.await(1, 0, 0, 1, 0);
        kernel.interrupt(1);
        check.due("interrupted", kernel.resultOf(1), FutexKernel.INTERRUPTED);
        kernel.lock(0, 0, 0);
        kernel.lock(1, 0, 0);
        kernel.unlock(0, 0);
        check.due("handed", kernel.resultOf(1), FutexKernel.HANDED);
        kernel.lock(0, 1, 0);
        kernel.lock(1, 1, 0);
        kernel.exit(0);
        check.due("the owner died", kernel.resultOf(1), FutexKernel.OWNER_DIED);
        kernel.lock(1, 2, 0);
        check.due("no wait, no new result", kernel.resultOf(1), FutexKernel.OWNER_DIED);
        kernel.exit(1);
        check.due("DEAD, it has it still", kernel.resultOf(1), FutexKernel.OWNER_DIED);
        check.due("its serial", kernel.serialOf(1), 5);
    }

    private static void promise23NoneSinceTheBeginning() {
        check.sentence("23", "NONE if none has ended since the beginning, or since it was started anew");
        FutexKernel kernel = Kernels.everyState();
        int[] none = {0, 1, 2, 3, 4, 6, 7};
        for (int thread : none) {
            check.due("thread " + thread, kernel.resultOf(thread), FutexKernel.NONE);
        }
        kernel.exit(5);
        kernel.start(5);
        check.due("started anew", kernel.resultOf(5), FutexKernel.NONE);
        kernel.await(5, 0, 0, 1, 0);
        check.due("in its first wait", kernel.resultOf(5), FutexKernel.NONE);
        kernel.wake(0, 0, 1, 1);
        check.due("WOKEN is not none", kernel.resultOf(5), FutexKernel.WOKEN);
    }

    private static void promise24EndOfThatWait() {
        check.sentence("24", "Returns the serial number of the end of that wait.");
        FutexKernel kernel = Kernels.allWaiting();
        for (int thread = 7; thread >= 0; thread--) {
            kernel.interrupt(thread);
            check.due("thread " + thread, kernel.serialOf(thread), 8 - thread);
        }
        kernel.await(7, 0, 0, 1, 0);
        check.due("while it waits again", kernel.serialOf(7), 1);
        kernel.interrupt(7);
        check.due("the next", kernel.serialOf(7), 9);
        check.due("of another it stays", kernel.serialOf(6), 2);
        kernel.exit(6);
        check.due("of one that is DEAD, too", kernel.serialOf(6), 2);
    }

    private static void promise24ZeroIfNone() {
        check.sentence("24", "0 if resultOf is NONE");
        FutexKernel kernel = Kernels.everyState();
        kernel.exit(5);
        kernel.start(5);
        for (int thread = 0; thread < 8; thread++) {
            check.due("result of " + thread, kernel.resultOf(thread), FutexKernel.NONE);
            check.due("serial of " + thread, kernel.serialOf(thread), 0);
        }
        check.unchanged("asking", Kernels::everyState, k -> k.serialOf(5));
    }

    private static void promises21To24Refused() {
        check.sentence("21 to 24", "if there is no such thread");
        for (int thread : NO_THREADS) {
            check.noPlace("stateOf " + thread, Kernels::everyState, k -> k.stateOf(thread));
            check.noPlace("addressOf " + thread, Kernels::everyState, k -> k.addressOf(thread));
            check.noPlace("resultOf " + thread, Kernels::everyState, k -> k.resultOf(thread));
            check.noPlace("serialOf " + thread, Kernels::everyState, k -> k.serialOf(thread));
        }
    }

    private static void promise25HowMany() {
        check.sentence("25", "Returns how many threads are at an address, WAITING or LOCKING.");
        check.due("none", new FutexKernel().waiters(0), 0);
        check.due("all", Kernels.allWaiting().waiters(5), 8);
        check.due("none at another address of the bucket", Kernels.allWaiting().waiters(2), 0);
        FutexKernel kernel = Kernels.everyState();
        check.due("two LOCKING", kernel.waiters(Kernels.LOCKED), 2);
        check.due("one WAITING", kernel.waiters(Kernels.LAST), 1);
        kernel.await(5, Kernels.LOCKED, kernel.word(Kernels.LOCKED), 1, 0);
        check.due("two LOCKING and one WAITING", kernel.waiters(Kernels.LOCKED), 3);
        check.due("the locks of a thread do not count", kernel.waiters(4), 0);
        check.unchanged("asking", Kernels::everyState, k -> k.waiters(Kernels.LOCKED));
    }

    private static void promise25Refused() {
        check.sentence("25", "if there is no such address");
        for (int address : NO_ADDRESSES) {
            check.noPlace("address " + address, Kernels::everyState, k -> k.waiters(address));
            check.noPlace("address " + address, Kernels::allWaiting, k -> k.waiters(address));
        }
    }

    private static void promise26InTheOrderOfTheQueue() {
        check.sentence("26", "0 for the first one in the order of the queue");
        FutexKernel kernel = Kernels.allWaiting();
        int[] order = {4, 7, 6, 5, 3, 2, 1, 0};
        for (int place = 0; place < order.length; place++) {
            check.due("place " + place, kernel.waiterAt(5, place), order[place]);
        }
        FutexKernel mixed = new FutexKernel();
        mixed.await(1, 7, 0, 1, 0);
        mixed.await(2, 0, 0, 1, 0);
        mixed.setPriority(3, 9);
        mixed.await(3, 13, 0, 1, 0);
        mixed.await(4, 0, 0, 1, 0);
        check.due("others of the bucket before it", mixed.waiterAt(0, 0), 2);
        check.due("the second", mixed.waiterAt(0, 1), 4);
        check.unchanged("asking", Kernels::allWaiting, k -> k.waiterAt(5, 7));
    }

    private static void promise26Refused() {
        check.sentence("26", "if there is no such address or place");
        for (int address : NO_ADDRESSES) {
            check.noPlace("address " + address, Kernels::everyState, k -> k.waiterAt(address, 0));
        }
        check.noPlace("an empty address", Kernels::everyState, k -> k.waiterAt(0, 0));
        check.noPlace("an empty one of a full bucket", Kernels::allWaiting, k -> k.waiterAt(2, 0));
        check.noPlace("behind the last", Kernels::everyState, k -> k.waiterAt(Kernels.LOCKED, 2));
        check.noPlace("behind all", Kernels::allWaiting, k -> k.waiterAt(5, 8));
        check.noPlace("place -1", Kernels::allWaiting, k -> k.waiterAt(5, -1));
        check.noPlace("the least", Kernels::allWaiting, k -> k.waiterAt(5, LEAST));
        check.noPlace("the greatest", Kernels::allWaiting, k -> k.waiterAt(5, GREATEST));
    }

    private static void promise27Places() {
        check.sentence("27", "0 to 3");
        FutexKernel kernel = new FutexKernel();
        for (int thread = 0; thread < 8; thread++) {
            kernel.await(thread, thread % 4 * 5, 0, 1, 0);
        }
        // The addresses 0, 5, 10 and 15 are in the buckets 0, 2, 0 and 2.
        int[][] queues = {{0, 2, 4, 6}, {}, {1, 3, 5, 7}, {}};
        for (int bucket = 0; bucket < 4; bucket++) {
            for (int place = 0; place < 8; place++) {
                boolean there = place < queues[bucket].length;
                check.due("bucket " + bucket + ", place " + place, kernel.queueAt(bucket, place),
                        there ? queues[bucket][place] : FutexKernel.NONE);
            }
        }
        check.unchanged("asking", Kernels::everyState, k -> k.queueAt(1, 1));
    }

    private static void promise27NoSuchPlace() {
        check.sentence("27", "NONE if the queue has no such place");
        FutexKernel kernel = Kernels.allWaiting();
        check.due("the last of a full queue", kernel.queueAt(2, 7), 0);
        check.due("behind it", kernel.queueAt(2, 8), FutexKernel.NONE);
        check.due("far behind it", kernel.queueAt(2, GREATEST), FutexKernel.NONE);
        check.due("an empty queue", kernel.queueAt(3, 0), FutexKernel.NONE);
        kernel.interrupt(0);
        check.due("where one was", kernel.queueAt(2, 7), FutexKernel.NONE);
        check.due("the last one", kernel.queueAt(2, 6), 1);
    }

    private static void promise27Refused() {
        check.sentence("27", "if there is no such bucket, or place is below 0");
        int[] buckets = {-1, 4, LEAST, GREATEST, -4};
        for (int bucket : buckets) {
            check.noPlace("bucket " + bucket, Kernels::everyState, k -> k.queueAt(bucket, 0));
        }
        check.noPlace("place -1", Kernels::everyState, k -> k.queueAt(0, -1));
        check.noPlace("place -1 of an empty queue", Kernels::everyState, k -> k.queueAt(3, -1));
        check.noPlace("the least place", Kernels::allWaiting, k -> k.queueAt(2, LEAST));
        check.noPlace("neither", Kernels::allWaiting, k -> k.queueAt(4, -1));
    }
}
