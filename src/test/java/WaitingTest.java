/** Promises 6 to 8: await, wake and requeue. */
public final class WaitingTest {
    private static final Check check = new Check();

    public static void main(String[] args) {
        promise6Await();
        promise6Refusals();
        promise7Wake();
        promise7WakesNoLocker();
        promise7Refusals();
        promise8WakesAndMoves();
        promise8JoinsTheOtherQueue();
        promise8InOneBucket();
        promise8KeepsMaskAndDeadline();
        promise8LeavesLockers();
        promise8Refusals();
        check.end("WaitingTest");
    }

    private static void promise6Await() {
        FutexKernel kernel = new FutexKernel();
        kernel.store(0, 7, 3);
        check.due("6 not expected", kernel.await(1, 7, 4, 1, 1), false);
        check.unchanged("6 not expected", Kernels::oneOfEach, other -> other.await(5, 7, 4, 1, 1));
        check.due("6 expected", kernel.await(1, 7, 3, 255, 10000), true);
        check.due("6 stateOf", kernel.stateOf(1), FutexKernel.WAITING);
        check.due("6 addressOf", kernel.addressOf(1), 7);
        check.due("6 queueAt", kernel.queueAt(0, 0), 1);
        check.due("6 waiterAt", kernel.waiterAt(7, 0), 1);
        check.due("6 deadline", kernel.nextTimeout(), 10000);
        check.due("6 no result yet", kernel.resultOf(1), FutexKernel.NONE);
        check.due("6 the word stays", kernel.word(7), 3);
        check.due("6 no deadline", kernel.await(2, 0, 0, 1, 0), true);
        check.due("6 the other deadline", kernel.nextTimeout(), 10000);
        kernel.setPriority(3, 1);
        kernel.await(3, 0, 0, 1, 1);
        check.due("6 priority first", kernel.queueAt(0, 0), 3);
        check.due("6 then the first to join", kernel.queueAt(0, 1), 1);
        check.due("6 then the second", kernel.queueAt(0, 2), 2);
        check.due("6 one tick", kernel.tick(1), 1);
        check.due("6 timed out", kernel.resultOf(3), FutexKernel.TIMED_OUT);
    }

    private static void promise6Refusals() {
        check.noPlace("6 thread -1", Kernels::oneOfEach, kernel -> kernel.await(-1, 0, 0, 0, 0));
        check.noPlace("6 thread 8", Kernels::oneOfEach, kernel -> kernel.await(8, 0, 0, 1, 0));
        check.noPlace("6 address -1", Kernels::oneOfEach, kernel -> kernel.await(0, -1, 0, 1, -1));
        check.noPlace("6 address 16", Kernels::oneOfEach, kernel -> kernel.await(0, 16, 0, 1, 0));
        check.noArgument("6 mask 0", Kernels::oneOfEach, kernel -> kernel.await(0, 0, 0, 0, 0));
        check.noArgument("6 mask -1", Kernels::oneOfEach, kernel -> kernel.await(0, 0, 0, -1, 0));
        check.noArgument("6 mask 256", Kernels::oneOfEach, kernel -> kernel.await(0, 0, 0, 256, 0));
        check.noArgument("6 timeout -1", Kernels::oneOfEach, kernel -> kernel.await(0, 0, 0, 1, -1));
        check.noArgument("6 timeout 10001", Kernels::oneOfEach, kernel -> kernel.await(0, 0, 0, 1, 10001));
        check.noArgument("6 mask, and not expected", Kernels::oneOfEach, kernel -> kernel.await(0, 0, 1, 0, 0));
        for (int thread = 1; thread <= 3; thread++) {
            int caller = thread;
            check.noState("6 not RUNNING " + thread, Kernels::oneOfEach, kernel -> kernel.await(caller, 0, 0, 1, 0));
            check.noState("6 not RUNNING, not expected " + thread, Kernels::oneOfEach,
                    kernel -> kernel.await(caller, 0, 5, 1, 0));
            check.noArgument("6 argument first " + thread, Kernels::oneOfEach,
                    kernel -> kernel.await(caller, 0, 0, 256, 0));
            check.noPlace("6 place first " + thread, Kernels::oneOfEach, kernel -> kernel.await(caller, 16, 0, 256, 0));
        }
    }

    private static void promise7Wake() {
        FutexKernel kernel = new FutexKernel();
        kernel.setPriority(4, 9);
        kernel.await(1, 0, 0, 1, 0);
        kernel.await(2, 0, 0, 6, 20);
        kernel.await(3, 0, 0, 255, 0);
        kernel.await(4, 0, 0, 128, 0);
        kernel.await(5, 7, 0, 255, 0);
        check.due("7 nobody there", kernel.wake(0, 1, 8, 255), 0);
        check.due("7 no common bit", kernel.wake(0, 0, 8, 8), 1);
        check.due("7 mask of all", kernel.resultOf(3), FutexKernel.WOKEN);
        check.due("7 its serial number", kernel.serialOf(3), 1);
        check.due("7 its state", kernel.stateOf(3), FutexKernel.RUNNING);
        check.due("7 its address", kernel.addressOf(3), FutexKernel.NONE);
        check.due("7 others stay", kernel.waiters(0), 3);
        check.due("7 one at most", kernel.wake(0, 0, 1, 255), 1);
        check.due("7 the greatest priority", kernel.serialOf(4), 2);
        check.due("7 the rest", kernel.wake(4, 0, 8, 255), 2);
        check.due("7 first", kernel.serialOf(1), 3);
        check.due("7 second", kernel.serialOf(2), 4);
        check.due("7 no deadline any more", kernel.nextTimeout(), FutexKernel.NONE);
        check.due("7 other address in the bucket", kernel.stateOf(5), FutexKernel.WAITING);
        check.due("7 once more", kernel.wake(0, 0, 8, 255), 0);
    }

    private static void promise7WakesNoLocker() {
        FutexKernel kernel = new FutexKernel();
        kernel.lock(0, 3, 0);
        kernel.lock(1, 3, 0);
        kernel.await(2, 3, kernel.word(3), 255, 0);
        check.due("7 only the one WAITING", kernel.wake(0, 3, 8, 255), 1);
        check.due("7 the LOCKING one stays", kernel.stateOf(1), FutexKernel.LOCKING);
        check.due("7 the word stays", kernel.word(3), Integer.MIN_VALUE | 1);
    }

    private static void promise7Refusals() {
        check.noPlace("7 thread -1", Kernels::oneOfEach, kernel -> kernel.wake(-1, 0, 1, 1));
        check.noPlace("7 thread 8", Kernels::oneOfEach, kernel -> kernel.wake(8, 0, 0, 0));
        check.noPlace("7 address -1", Kernels::oneOfEach, kernel -> kernel.wake(0, -1, 1, 1));
        check.noPlace("7 address 16", Kernels::oneOfEach, kernel -> kernel.wake(0, 16, 0, 1));
        check.noArgument("7 most 0", Kernels::oneOfEach, kernel -> kernel.wake(0, 0, 0, 1));
        check.noArgument("7 most 9", Kernels::oneOfEach, kernel -> kernel.wake(0, 0, 9, 1));
        check.noArgument("7 most -1", Kernels::oneOfEach, kernel -> kernel.wake(0, 0, -1, 1));
        check.noArgument("7 mask 0", Kernels::oneOfEach, kernel -> kernel.wake(0, 0, 1, 0));
        check.noArgument("7 mask 256", Kernels::oneOfEach, kernel -> kernel.wake(0, 0, 1, 256));
        check.noArgument("7 mask -1", Kernels::oneOfEach, kernel -> kernel.wake(0, 0, 1, -1));
        for (int thread = 1; thread <= 3; thread++) {
            int caller = thread;
            check.noState("7 not RUNNING " + thread, Kernels::oneOfEach, kernel -> kernel.wake(caller, 0, 1, 1));
            check.noArgument("7 argument first " + thread, Kernels::oneOfEach, kernel -> kernel.wake(caller, 0, 9, 1));
            check.noPlace("7 place first " + thread, Kernels::oneOfEach, kernel -> kernel.wake(caller, 16, 9, 1));
        }
    }

    private static void promise8WakesAndMoves() {
        FutexKernel kernel = fiveAtZero();
        check.due("8 not expected", kernel.requeue(0, 0, 0, 8, 1, 8), FutexKernel.NONE);
        check.unchanged("8 not expected", WaitingTest::fiveAtZero, other -> other.requeue(0, 0, 0, 8, 1, 8));
        check.due("8 nobody", kernel.requeue(0, 0, 42, 0, 1, 0), 0);
        check.unchanged("8 nobody", WaitingTest::fiveAtZero, other -> other.requeue(0, 0, 42, 0, 1, 0));
        check.due("8 one woken and two moved", kernel.requeue(0, 0, 42, 1, 1, 2), 3);
        check.due("8 woken, whatever its mask", kernel.resultOf(1), FutexKernel.WOKEN);
        check.due("8 serial number", kernel.serialOf(1), 1);
        check.due("8 moved", kernel.addressOf(2), 1);
        check.due("8 moved, too", kernel.addressOf(3), 1);
        check.due("8 moving ends no wait", kernel.resultOf(2), FutexKernel.NONE);
        check.due("8 still WAITING", kernel.stateOf(3), FutexKernel.WAITING);
        check.due("8 stays", kernel.addressOf(4), 0);
        check.due("8 the first at the other", kernel.waiterAt(1, 0), 2);
        check.due("8 the second at the other", kernel.waiterAt(1, 1), 3);
        check.due("8 in the other bucket", kernel.queueAt(1, 1), 3);
        check.due("8 the words stay", kernel.word(0), 42);
        check.due("8 more than there are", kernel.requeue(0, 0, 42, 8, 1, 8), 2);
        check.due("8 both woken", kernel.serialOf(5), 3);
        check.due("8 the word of the first one", kernel.requeue(0, 1, 42, 8, 0, 8), FutexKernel.NONE);
        check.due("8 only moves", kernel.requeue(0, 1, 0, 0, 15, 8), 2);
        check.due("8 moved on", kernel.waiterAt(15, 1), 3);
    }

    private static FutexKernel fiveAtZero() {
        FutexKernel kernel = new FutexKernel();
        kernel.store(0, 0, 42);
        for (int thread = 1; thread <= 5; thread++) {
            kernel.await(thread, 0, 42, 1 << thread, 0);
        }
        return kernel;
    }

    private static void promise8JoinsTheOtherQueue() {
        FutexKernel kernel = new FutexKernel();
        kernel.setPriority(2, 5);
        kernel.setPriority(3, 1);
        kernel.setPriority(4, 5);
        kernel.await(1, 0, 0, 1, 0);
        kernel.await(2, 0, 0, 1, 0);
        kernel.await(3, 1, 0, 1, 0);
        kernel.await(4, 1, 0, 1, 0);
        kernel.await(5, 1, 0, 1, 0);
        check.due("8 both moved", kernel.requeue(0, 0, 0, 0, 1, 8), 2);
        int[] order = {4, 2, 3, 5, 1, FutexKernel.NONE};
        for (int place = 0; place < order.length; place++) {
            check.due("8 order at " + place, kernel.queueAt(1, place), order[place]);
        }
        check.due("8 the queue left is empty", kernel.queueAt(0, 0), FutexKernel.NONE);
    }

    private static void promise8InOneBucket() {
        FutexKernel kernel = new FutexKernel();
        kernel.await(1, 0, 0, 1, 0);
        kernel.await(2, 0, 0, 1, 0);
        kernel.await(3, 7, 0, 1, 0);
        check.due("8 moved within the bucket", kernel.requeue(0, 0, 0, 0, 7, 1), 1);
        check.due("8 it joins anew: first", kernel.queueAt(0, 0), 2);
        check.due("8 it joins anew: second", kernel.queueAt(0, 1), 3);
        check.due("8 it joins anew: third", kernel.queueAt(0, 2), 1);
    }

    private static void promise8KeepsMaskAndDeadline() {
        FutexKernel kernel = new FutexKernel();
        kernel.await(1, 0, 0, 2, 7);
        kernel.await(2, 1, 0, 1, 7);
        kernel.tick(3);
        kernel.requeue(0, 0, 0, 0, 1, 1);
        check.due("8 the deadline stays", kernel.nextTimeout(), 4);
        check.due("8 the mask stays", kernel.wake(0, 1, 8, 4), 0);
        check.due("8 it joined behind", kernel.waiterAt(1, 1), 1);
        check.due("8 both time out", kernel.tick(4), 2);
        check.due("8 moving began no new wait: first", kernel.serialOf(1), 1);
        check.due("8 moving began no new wait: second", kernel.serialOf(2), 2);
    }

    private static void promise8LeavesLockers() {
        FutexKernel kernel = new FutexKernel();
        kernel.lock(0, 2, 0);
        kernel.lock(1, 2, 0);
        int word = kernel.word(2);
        kernel.await(2, 2, word, 1, 0);
        kernel.await(3, 2, word, 1, 0);
        check.due("8 only those WAITING", kernel.requeue(0, 2, word, 1, 3, 8), 2);
        check.due("8 the LOCKING one stays", kernel.addressOf(1), 2);
        check.due("8 woken", kernel.resultOf(2), FutexKernel.WOKEN);
        check.due("8 moved", kernel.addressOf(3), 3);
        check.due("8 the word stays", kernel.word(2), word);
    }

    private static void promise8Refusals() {
        check.noPlace("8 thread -1", Kernels::oneOfEach, kernel -> kernel.requeue(-1, 0, 0, 1, 2, 1));
        check.noPlace("8 thread 8", Kernels::oneOfEach, kernel -> kernel.requeue(8, 0, 0, 1, 0, 1));
        check.noPlace("8 from -1", Kernels::oneOfEach, kernel -> kernel.requeue(0, -1, 0, 1, 2, 1));
        check.noPlace("8 from 16 alone", Kernels::oneOfEach, kernel -> kernel.requeue(0, 16, 0, 1, 2, 1));
        check.noPlace("8 both -1", Kernels::oneOfEach, kernel -> kernel.requeue(0, -1, 0, 1, -1, 1));
        check.noPlace("8 both 16", Kernels::oneOfEach, kernel -> kernel.requeue(0, 16, 0, 1, 16, 1));
        check.noPlace("8 to -1", Kernels::oneOfEach, kernel -> kernel.requeue(0, 0, 0, 9, -1, 1));
        check.noPlace("8 to 16", Kernels::oneOfEach, kernel -> kernel.requeue(0, 0, 5, 1, 16, 9));
        check.noArgument("8 the same", Kernels::oneOfEach, kernel -> kernel.requeue(0, 0, 0, 1, 0, 1));
        check.noArgument("8 wakes -1", Kernels::oneOfEach, kernel -> kernel.requeue(0, 0, 0, -1, 2, 1));
        check.noArgument("8 wakes 9", Kernels::oneOfEach, kernel -> kernel.requeue(0, 0, 0, 9, 2, 1));
        check.noArgument("8 moves -1", Kernels::oneOfEach, kernel -> kernel.requeue(0, 0, 0, 1, 2, -1));
        check.noArgument("8 moves 9", Kernels::oneOfEach, kernel -> kernel.requeue(0, 0, 0, 1, 2, 9));
        check.noArgument("8 moves 9, not expected", Kernels::oneOfEach, kernel -> kernel.requeue(0, 0, 5, 1, 2, 9));
        for (int thread = 1; thread <= 3; thread++) {
            int caller = thread;
            check.noState("8 not RUNNING " + thread, Kernels::oneOfEach,
                    kernel -> kernel.requeue(caller, 0, 0, 1, 2, 1));
            check.noState("8 not expected " + thread, Kernels::oneOfEach,
                    kernel -> kernel.requeue(caller, 0, 5, 1, 2, 1));
            check.noArgument("8 argument first " + thread, Kernels::oneOfEach,
                    kernel -> kernel.requeue(caller, 0, 0, 1, 0, 1));
            check.noPlace("8 place first " + thread, Kernels::oneOfEach,
                    kernel -> kernel.requeue(caller, 0, 0, 9, 16, 1));
        }
    }
}
