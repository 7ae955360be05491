/** Promises 6 to 8: a test for each sentence that has an edge. */
public final class WaitingEdgesTest {
    private static final int LEAST = Integer.MIN_VALUE, GREATEST = Integer.MAX_VALUE;
    private static final Check check = new Check();

    public static void main(String[] args) {
        promise6WaitsIfExpected();
        promise6NothingChangesIfNot();
        promise6Masks();
        promise6Timeouts();
        promise6NoDeadline();
        promise6Refused();
        promise7MasksWithACommonBit();
        promise7InTheOrderOfTheQueue();
        promise7HowManyAtMost();
        promise7NobodyToWake();
        promise7Refused();
        promise8WhateverTheirMasks();
        promise8IfExpected();
        promise8HowManyAreWoken();
        promise8HowManyAreMoved();
        promise8FirstSomeAreWoken();
        promise8EachJoinsTheOtherQueue();
        promise8KeepsMask();
        promise8KeepsDeadline();
        promise8HowManyTogether();
        promise8Refused();
        check.end("WaitingEdgesTest");
    }

    private static void promise6WaitsIfExpected() {
        check.sentence("6", "Lets a thread wait at an address if its word has an expected value:"
                + " it is WAITING then, and joins the queue.");
        int[] values = {0, 1, -1, LEAST, GREATEST};
        for (int value : values) {
            FutexKernel kernel = new FutexKernel();
            kernel.store(0, 15, value);
            check.due("expected " + value, kernel.await(7, 15, value, 1, 0), true);
            check.due("state", kernel.stateOf(7), FutexKernel.WAITING);
            check.due("address", kernel.addressOf(7), 15);
            check.due("the empty queue's first", kernel.queueAt(2, 0), 7);
            check.due("its own word tells, not another", kernel.await(6, 14, value, 1, 0), value == 0);
            check.due("the word stays", kernel.word(15), value);
        }
    }

    private static void promise6NothingChangesIfNot() {
        check.sentence("6", "Returns whether it waits; if not, nothing changes.");
        FutexKernel kernel = new FutexKernel();
        check.due("one more", kernel.await(0, 0, 1, 255, 5), false);
        check.due("highest bit", kernel.await(0, 0, LEAST, 255, 5), false);
        check.due("no wait", kernel.stateOf(0), FutexKernel.RUNNING);
        check.unchanged("not expected", Kernels::everyState, k -> k.await(0, 0, 1, 255, 5));
        check.unchanged("with no deadline", Kernels::everyState, k -> k.await(5, Kernels.FULL, LEAST, 1, 0));
    }

    private static void promise6Masks() {
        check.sentence("6", "1 to 255: a set of bits by which it can be woken");
        for (int bit = 0; bit < 8; bit++) {
            FutexKernel kernel = new FutexKernel();
            check.due("bit " + bit, kernel.await(1, 0, 0, 1 << bit, 0), true);
            check.due("by all other bits", kernel.wake(0, 0, 8, 255 - (1 << bit)), 0);
            check.due("by its own", kernel.wake(0, 0, 8, 1 << bit), 1);
            check.due("all bits", kernel.await(1, 0, 0, 255, 0), true);
            check.due("by one of them", kernel.wake(0, 0, 8, 1 << bit), 1);
        }
        check.noArgument("mask 0", Kernels::everyState, k -> k.await(0, 0, 0, 0, 0));
        check.noArgument("mask 256", Kernels::everyState, k -> k.await(0, 0, 0, 256, 0));
        check.noArgument("mask 257", Kernels::everyState, k -> k.await(0, 0, 0, 257, 0));
        check.noArgument("mask -1", Kernels::everyState, k -> k.await(0, 0, 0, -1, 0));
    }

    private static void promise6Timeouts() {
        check.sentence("6", "1 to 10000 ticks");
        FutexKernel kernel = new FutexKernel();
        check.due("10000", kernel.await(1, 0, 0, 1, 10000), true);
        check.due("the deadline", kernel.nextTimeout(), 10000);
        check.due("1", kernel.await(2, 0, 0, 1, 1), true);
        check.due("the deadline", kernel.nextTimeout(), 1);
        check.due("in the first tick", kernel.tick(1), 1);
        check.due("the other one stays", kernel.nextTimeout(), 9999);
        check.noArgument("10001", Kernels::everyState, k -> k.await(0, 0, 0, 1, 10001));
        check.noArgument("-1", Kernels::everyState, k -> k.await(0, 0, 0, 1, -1));
        check.noArgument("the least", Kernels::everyState, k -> k.await(0, 0, 0, 1, LEAST));
        check.noArgument("the greatest", Kernels::everyState, k -> k.await(0, 0, 0, 1, GREATEST));
    }

    private static void promise6NoDeadline() {
        check.sentence("6", "0 for no deadline");
        FutexKernel kernel = new FutexKernel();
        check.due("0", kernel.await(1, 0, 0, 1, 0), true);
        check.due("no deadline", kernel.nextTimeout(), FutexKernel.NONE);
        for (int times = 0; times < 11; times++) {
            check.due("it does not end", kernel.tick(1000), 0);
        }
        check.due("it waits", kernel.stateOf(1), FutexKernel.WAITING);
    }

    private static void promise6Refused() {
        check.sentence("6", "if there is no such thread or address");
        check.noPlace("thread -1", Kernels::everyState, k -> k.await(-1, 0, 0, 1, 0));
        check.noPlace("thread 8, and mask", Kernels::everyState, k -> k.await(8, 0, 0, 0, 0));
        check.noPlace("address -1, and timeout", Kernels::everyState, k -> k.await(0, -1, 0, 1, -1));
        check.noPlace("address 16, and DEAD", Kernels::everyState, k -> k.await(3, 16, 0, 1, 0));
        check.sentence("6", "if mask or timeout is out of range");
        check.noArgument("mask, and not expected", Kernels::everyState, k -> k.await(0, 0, 1, 0, 0));
        check.noArgument("timeout, and not expected", Kernels::everyState, k -> k.await(0, 0, 1, 1, 10001));
        check.noArgument("mask, and DEAD", Kernels::everyState, k -> k.await(3, 0, 0, 256, 0));
        check.noArgument("timeout, and WAITING", Kernels::everyState, k -> k.await(1, 0, 0, 1, 10001));
        check.sentence("6", "if the thread is not RUNNING");
        check.noState("WAITING", Kernels::everyState, k -> k.await(1, 0, 0, 1, 0));
        check.noState("WAITING, at the same", Kernels::everyState, k -> k.await(1, Kernels.FULL, 0, 1, 0));
        check.noState("LOCKING", Kernels::everyState, k -> k.await(2, 0, 0, 1, 0));
        check.noState("DEAD", Kernels::everyState, k -> k.await(3, 0, 0, 1, 0));
        check.noState("DEAD, and not expected", Kernels::everyState, k -> k.await(3, 0, 1, 1, 0));
    }

    private static void promise7MasksWithACommonBit() {
        check.sentence("7", "with a mask that has a bit in common with another one");
        FutexKernel kernel = new FutexKernel();
        for (int thread = 0; thread < 7; thread++) {
            kernel.await(thread, 0, 0, 3 << thread, 0);
        }
        check.due("the lowest bit", kernel.wake(7, 0, 8, 1), 1);
        check.due("of the first", kernel.serialOf(0), 1);
        check.due("no more of it", kernel.wake(7, 0, 8, 1), 0);
        check.due("the highest bit", kernel.wake(7, 0, 8, 128), 1);
        check.due("of the last", kernel.serialOf(6), 2);
        check.due("a bit of two", kernel.wake(7, 0, 8, 4), 2);
        check.due("two bits, of two others", kernel.wake(7, 0, 8, 128 | 32), 2);
        check.due("one is left", kernel.waiterAt(0, 0), 3);
        check.due("neither of its bits", kernel.wake(7, 0, 8, 255 - (3 << 3)), 0);
        check.due("all bits", kernel.wake(7, 0, 8, 255), 1);
        check.noArgument("mask 0", Kernels::everyState, k -> k.wake(0, 0, 1, 0));
        check.noArgument("mask 256", Kernels::everyState, k -> k.wake(0, 0, 1, 256));
        check.noArgument("mask -1", Kernels::everyState, k -> k.wake(0, 0, 1, -1));
    }

    private static void promise7InTheOrderOfTheQueue() {
        check.sentence("7", "in the order of the queue. Their waits end with WOKEN.");
        FutexKernel kernel = Kernels.allWaiting();
        kernel.interrupt(3);
        check.due("those skipped do not count", kernel.wake(3, 5, 2, 255), 2);
        check.due("the greatest priority", kernel.serialOf(4), 2);
        check.due("then the first that joined", kernel.serialOf(7), 3);
        check.due("woken", kernel.resultOf(7), FutexKernel.WOKEN);
        check.due("the next stays", kernel.waiterAt(5, 0), 6);
        check.due("one woken can wake others", kernel.wake(7, 5, 1, 128), 1);
        check.due("the next", kernel.serialOf(6), 4);
    }

    private static void promise7HowManyAtMost() {
        check.sentence("7", "1 to 8: how many at most");
        for (int most = 1; most <= 8; most++) {
            FutexKernel kernel = Kernels.allWaiting();
            kernel.interrupt(0);
            int woken = Math.min(most, 7);
            check.due("at most " + most, kernel.wake(0, 5, most, 1), woken);
            check.due("left", kernel.waiters(5), 7 - woken);
        }
        FutexKernel kernel = new FutexKernel();
        kernel.await(1, 0, 0, 1, 0);
        kernel.await(2, 0, 0, 2, 0);
        kernel.await(3, 0, 0, 2, 0);
        check.due("one without a common bit is not counted", kernel.wake(0, 0, 2, 2), 2);
        check.due("it stays", kernel.stateOf(1), FutexKernel.WAITING);
        check.noArgument("0", Kernels::everyState, k -> k.wake(0, 0, 0, 1));
        check.noArgument("9", Kernels::everyState, k -> k.wake(0, 0, 9, 1));
        check.noArgument("-1", Kernels::everyState, k -> k.wake(0, 0, -1, 1));
    }

    private static void promise7NobodyToWake() {
        check.sentence("7", "Returns how many.");
        FutexKernel kernel = Kernels.everyState();
        check.due("an empty bucket", kernel.wake(0, 3, 8, 255), 0);
        check.due("another address of the bucket", kernel.wake(0, 0, 8, 255), 0);
        check.due("only LOCKING ones", kernel.wake(0, Kernels.LOCKED, 8, 255), 0);
        check.unchanged("an empty bucket", Kernels::everyState, k -> k.wake(0, 3, 8, 255));
        check.unchanged("another address of the bucket", Kernels::everyState, k -> k.wake(0, 0, 8, 255));
        check.unchanged("only LOCKING ones", Kernels::everyState, k -> k.wake(0, Kernels.LOCKED, 8, 255));
        check.unchanged("no common bit", Kernels::everyState, k -> k.wake(0, Kernels.FULL, 8, 255 - 6));
    }

    private static void promise7Refused() {
        check.sentence("7", "if there is no such thread or address");
        check.noPlace("thread -1", Kernels::everyState, k -> k.wake(-1, 0, 1, 1));
        check.noPlace("thread 8, and most", Kernels::everyState, k -> k.wake(8, 0, 0, 1));
        check.noPlace("address -1, and mask", Kernels::everyState, k -> k.wake(0, -1, 1, 0));
        check.noPlace("address 16, and DEAD", Kernels::everyState, k -> k.wake(3, 16, 1, 1));
        check.sentence("7", "if most or mask is out of range");
        check.noArgument("most, and WAITING", Kernels::everyState, k -> k.wake(1, Kernels.LAST, 9, 255));
        check.noArgument("mask, and DEAD", Kernels::everyState, k -> k.wake(3, Kernels.LAST, 1, 256));
        check.noArgument("most alone", Kernels::everyState, k -> k.wake(0, Kernels.LAST, 0, 255));
        check.noArgument("mask alone", Kernels::everyState, k -> k.wake(0, Kernels.LAST, 1, 0));
        check.sentence("7", "if the thread is not RUNNING");
        check.noState("WAITING", Kernels::everyState, k -> k.wake(1, Kernels.LAST, 8, 255));
        check.noState("WAITING, itself", Kernels::everyState, k -> k.wake(1, Kernels.FULL, 8, 255));
        check.noState("LOCKING", Kernels::everyState, k -> k.wake(2, Kernels.LAST, 8, 255));
        check.noState("DEAD", Kernels::everyState, k -> k.wake(3, Kernels.LAST, 8, 255));
    }

    private static void promise8WhateverTheirMasks() {
        check.sentence("8", "Wakes threads that are WAITING at an address, whatever their masks,"
                + " and moves further ones to another address");
        for (int bit = 0; bit < 8; bit++) {
            FutexKernel kernel = new FutexKernel();
            kernel.await(1, 0, 0, 1 << bit, 0);
            kernel.await(2, 0, 0, 1 << 7 - bit, 0);
            check.due("bit " + bit + " and another", kernel.requeue(0, 0, 0, 1, 15, 1), 2);
            check.due("woken", kernel.resultOf(1), FutexKernel.WOKEN);
            check.due("moved", kernel.addressOf(2), 15);
        }
    }

    private static void promise8IfExpected() {
        check.sentence("8", "NONE if the word does not have the expected value, nothing changes then.");
        FutexKernel kernel = Kernels.everyState();
        check.due("one more", kernel.requeue(0, Kernels.FULL, 1, 8, 2, 8), FutexKernel.NONE);
        check.due("highest bit", kernel.requeue(0, Kernels.FULL, LEAST, 8, 2, 8), FutexKernel.NONE);
        check.due("nobody there either", kernel.requeue(0, 1, 5, 0, 2, 0), FutexKernel.NONE);
        check.unchanged("one more", Kernels::everyState, k -> k.requeue(0, Kernels.FULL, 1, 8, 2, 8));
        check.unchanged("highest bit", Kernels::everyState, k -> k.requeue(0, Kernels.FULL, LEAST, 8, 2, 8));
        kernel.store(0, 2, 77);
        check.due("the word of the first one tells", kernel.requeue(0, Kernels.FULL, 77, 8, 2, 8), FutexKernel.NONE);
        check.due("not that of the other one", kernel.requeue(0, Kernels.FULL, 0, 0, 2, 8), 1);
        check.due("both words stay", kernel.word(2) + kernel.word(Kernels.FULL), 77);
    }

    private static void promise8HowManyAreWoken() {
        check.sentence("8", "0 to 8: how many are woken at most");
        for (int wakes = 0; wakes <= 8; wakes++) {
            FutexKernel kernel = sevenAtFive();
            int woken = Math.min(wakes, 7);
            check.due("at most " + wakes, kernel.requeue(0, 5, 0, wakes, 6, 0), woken);
            check.due("the others stay", kernel.waiters(5), 7 - woken);
            check.due("none is moved", kernel.waiters(6), 0);
        }
        check.noArgument("-1", Kernels::everyState, k -> k.requeue(0, Kernels.FULL, 0, -1, 2, 8));
        check.noArgument("9", Kernels::everyState, k -> k.requeue(0, Kernels.FULL, 0, 9, 2, 8));
    }

    private static void promise8HowManyAreMoved() {
        check.sentence("8", "0 to 8: how many are moved at most");
        for (int moves = 0; moves <= 8; moves++) {
            FutexKernel kernel = sevenAtFive();
            int moved = Math.min(moves, 7);
            check.due("at most " + moves, kernel.requeue(0, 5, 0, 0, 6, moves), moved);
            check.due("the others stay", kernel.waiters(5), 7 - moved);
            check.due("at the other address", kernel.waiters(6), moved);
            check.due("no end of a wait", kernel.resultOf(4), FutexKernel.NONE);
            check.due("no serial is taken", kernel.wake(0, moved == 7 ? 6 : 5, 1, 1), 1);
            check.due("the next serial", serialsOfAll(kernel), 1 + 2);
        }
        check.noArgument("-1", Kernels::everyState, k -> k.requeue(0, Kernels.FULL, 0, 8, 2, -1));
        check.noArgument("9", Kernels::everyState, k -> k.requeue(0, Kernels.FULL, 0, 8, 2, 9));
        check.unchanged("nobody", Kernels::everyState, k -> k.requeue(0, Kernels.FULL, 0, 0, 2, 0));
    }

    /** All but 0 WAITING at the address 5: 4, 7, 6, 5, 3, 2, 1; 0 was interrupted, with the serial number 1. */
    private static FutexKernel sevenAtFive() {
        FutexKernel kernel = Kernels.allWaiting();
        kernel.interrupt(0);
        return kernel;
    }

    private static int serialsOfAll(FutexKernel kernel) {
        int sum = 0;
        for (int thread = 0; thread < 8; thread++) {
            sum += kernel.serialOf(thread);
        }
        return sum;
    }

    private static void promise8FirstSomeAreWoken() {
        check.sentence("8", "First some are woken, in the order of the queue; then the next ones that are WAITING"
                + " at it are moved, in the order of the queue");
        FutexKernel kernel = sevenAtFive();
        check.due("two and three", kernel.requeue(0, 5, 0, 2, 0, 3), 5);
        check.due("the first", kernel.serialOf(4), 2);
        check.due("the second", kernel.serialOf(7), 3);
        int[] moved = {6, 5, 3};
        for (int place = 0; place < 3; place++) {
            check.due("moved, place " + place, kernel.waiterAt(0, place), moved[place]);
        }
        check.due("stays, the first", kernel.waiterAt(5, 0), 2);
        check.due("stays, the second", kernel.waiterAt(5, 1), 1);
        FutexKernel other = new FutexKernel();
        other.lock(0, 2, 0);
        other.lock(1, 2, 0);
        int word = other.word(2);
        other.setPriority(1, 9);
        other.await(2, 2, word, 1, 0);
        check.due("one LOCKING before them is passed over", other.requeue(0, 2, word, 0, 3, 8), 1);
        check.due("it stays", other.waiterAt(2, 0), 1);
        check.due("nobody WAITING any more", other.requeue(0, 2, word, 8, 3, 8), 0);
    }

    private static void promise8EachJoinsTheOtherQueue() {
        check.sentence("8", "each leaves its queue and joins that of the other address");
        FutexKernel kernel = new FutexKernel();
        kernel.setPriority(1, 5);
        kernel.setPriority(3, 5);
        kernel.setPriority(4, 9);
        kernel.await(1, 0, 0, 1, 0);
        kernel.await(2, 0, 0, 1, 0);
        kernel.await(3, 3, 0, 1, 0);
        kernel.lock(0, 3, 0);
        kernel.lock(5, 3, 0);
        kernel.await(4, 6, 0, 1, 0);
        check.due("to an address with others", kernel.requeue(0, 0, 0, 0, 3, 8), 2);
        int[] order = {4, 3, 1, 5, 2, FutexKernel.NONE};
        for (int place = 0; place < order.length; place++) {
            check.due("place " + place, kernel.queueAt(3, place), order[place]);
        }
        check.due("the queue that they left", kernel.queueAt(0, 0), FutexKernel.NONE);
        check.due("they are WAITING", kernel.stateOf(2), FutexKernel.WAITING);
        check.due("the lock there is not theirs", kernel.unlock(0, 3), 5);
        check.due("within a bucket: the first joins anew", kernel.requeue(0, 3, 6, 0, 6, 1), 1);
        check.due("behind the same priority", kernel.queueAt(3, 1), 1);
        check.due("it is there", kernel.queueAt(3, 2), 3);
    }

    private static void promise8KeepsMask() {
        check.sentence("8", "it keeps its mask and its deadline");
        FutexKernel kernel = new FutexKernel();
        kernel.await(1, 0, 0, 128, 0);
        kernel.await(2, 0, 0, 1, 0);
        kernel.requeue(0, 0, 0, 0, 15, 8);
        check.due("neither bit", kernel.wake(0, 15, 8, 126), 0);
        check.due("the highest bit", kernel.wake(0, 15, 8, 128), 1);
        check.due("of that one", kernel.serialOf(1), 1);
        check.due("the lowest bit", kernel.wake(0, 15, 8, 1), 1);
    }

    private static void promise8KeepsDeadline() {
        check.sentence("8", "it keeps its mask and its deadline");
        FutexKernel kernel = new FutexKernel();
        kernel.await(1, 0, 0, 1, 10000);
        kernel.await(2, 0, 0, 1, 2);
        kernel.await(3, 0, 0, 1, 0);
        kernel.tick(1);
        kernel.requeue(0, 0, 0, 0, 1, 8);
        check.due("the next tick", kernel.nextTimeout(), 1);
        check.due("one ends", kernel.tick(1), 1);
        check.due("that one", kernel.resultOf(2), FutexKernel.TIMED_OUT);
        check.due("the longest", kernel.nextTimeout(), 9998);
        kernel.wake(0, 1, 1, 1);
        check.due("the one without stays without", kernel.nextTimeout(), FutexKernel.NONE);
        check.due("it waits", kernel.addressOf(3), 1);
    }

    private static void promise8HowManyTogether() {
        check.sentence("8", "Returns how many were woken and moved, together");
        for (int wakes = 0; wakes <= 8; wakes++) {
            for (int moves = 0; moves <= 8; moves++) {
                FutexKernel kernel = sevenAtFive();
                check.due(wakes + " and " + moves, kernel.requeue(0, 5, 0, wakes, 10, moves),
                        Math.min(wakes + moves, 7));
            }
        }
        FutexKernel kernel = new FutexKernel();
        check.due("of nobody", kernel.requeue(0, 5, 0, 8, 10, 8), 0);
    }

    private static void promise8Refused() {
        check.sentence("8", "if there is no such thread, or no such address, of either");
        check.noPlace("thread -1", Kernels::everyState, k -> k.requeue(-1, 0, 0, 1, 2, 1));
        check.noPlace("thread 8", Kernels::everyState, k -> k.requeue(8, 0, 0, 1, 2, 1));
        check.noPlace("from -1", Kernels::everyState, k -> k.requeue(0, -1, 0, 1, 2, 1));
        check.noPlace("from 16", Kernels::everyState, k -> k.requeue(0, 16, 0, 1, 2, 1));
        check.noPlace("to -1", Kernels::everyState, k -> k.requeue(0, 2, 0, 1, -1, 1));
        check.noPlace("to 16, not expected", Kernels::everyState, k -> k.requeue(0, 2, 5, 1, 16, 1));
        check.noPlace("both 16, the same", Kernels::everyState, k -> k.requeue(0, 16, 0, 1, 16, 1));
        check.noPlace("to 16, and wakes, and DEAD", Kernels::everyState, k -> k.requeue(3, 2, 0, 9, 16, 1));
        check.sentence("8", "if from and to are the same, or wakes or moves is out of range");
        check.noArgument("the same", Kernels::everyState, k -> k.requeue(0, 10, 0, 1, 10, 1));
        check.noArgument("the same, not expected", Kernels::everyState, k -> k.requeue(0, 10, 5, 1, 10, 1));
        check.noArgument("the same, and none", Kernels::everyState, k -> k.requeue(0, 10, 0, 0, 10, 0));
        check.noArgument("the same, and DEAD", Kernels::everyState, k -> k.requeue(3, 10, 0, 1, 10, 1));
        check.noArgument("wakes, and DEAD", Kernels::everyState, k -> k.requeue(3, 10, 0, 9, 2, 1));
        check.noArgument("moves, not expected", Kernels::everyState, k -> k.requeue(0, 10, 5, 1, 2, -1));
        check.sentence("8", "if the thread is not RUNNING");
        check.noState("WAITING", Kernels::everyState, k -> k.requeue(1, 15, 0, 1, 2, 1));
        check.noState("LOCKING", Kernels::everyState, k -> k.requeue(2, 15, 0, 1, 2, 1));
        check.noState("DEAD", Kernels::everyState, k -> k.requeue(3, 15, 0, 1, 2, 1));
        check.noState("DEAD, not expected", Kernels::everyState, k -> k.requeue(3, 15, 5, 1, 2, 1));
    }
}
