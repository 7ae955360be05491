/** Promises 25 to 27: waiters, waiterAt and queueAt. */
public final class QueuesTest {
    private static final Check check = new Check();

    public static void main(String[] args) {
        promise25And26AtAnAddress();
        promise26Refusals();
        promise27BucketsOfAddresses();
        promise27Queue();
        promise27Refusals();
        check.end("QueuesTest");
    }

    private static void promise25And26AtAnAddress() {
        FutexKernel kernel = mixed();
        check.due("25 WAITING and LOCKING", kernel.waiters(0), 4);
        check.due("25 another address of the bucket", kernel.waiters(7), 2);
        check.due("25 nobody", kernel.waiters(10), 0);
        int[] order = {5, 1, 3, 6};
        for (int place = 0; place < order.length; place++) {
            check.due("26 place " + place, kernel.waiterAt(0, place), order[place]);
        }
        check.due("26 first of the other", kernel.waiterAt(7, 0), 4);
        check.due("26 second of the other", kernel.waiterAt(7, 1), 2);
        check.noPlace("25 address -1", QueuesTest::mixed, other -> other.waiters(-1));
        check.noPlace("25 address 16", QueuesTest::mixed, other -> other.waiters(16));
    }

    private static void promise26Refusals() {
        check.noPlace("26 behind the last", QueuesTest::mixed, kernel -> kernel.waiterAt(0, 4));
        check.noPlace("26 behind the last of the other", QueuesTest::mixed, kernel -> kernel.waiterAt(7, 2));
        check.noPlace("26 nobody", QueuesTest::mixed, kernel -> kernel.waiterAt(10, 0));
        check.noPlace("26 place -1", QueuesTest::mixed, kernel -> kernel.waiterAt(0, -1));
        check.noPlace("26 greatest place", QueuesTest::mixed, kernel -> kernel.waiterAt(0, Integer.MAX_VALUE));
        check.noPlace("26 least place", QueuesTest::mixed, kernel -> kernel.waiterAt(0, Integer.MIN_VALUE));
        check.noPlace("26 address -1", QueuesTest::mixed, kernel -> kernel.waiterAt(-1, 0));
        check.noPlace("26 address 16", QueuesTest::mixed, kernel -> kernel.waiterAt(16, 0));
    }

    private static void promise27BucketsOfAddresses() {
        int[] buckets = {0, 1, 2, 3, 1, 2, 3, 0, 2, 3, 0, 1, 3, 0, 1, 2};
        for (int address = 0; address < 16; address++) {
            FutexKernel kernel = new FutexKernel();
            kernel.await(3, address, 0, 1, 0);
            for (int bucket = 0; bucket < 4; bucket++) {
                check.due("27 address " + address + " in bucket " + bucket, kernel.queueAt(bucket, 0),
                        bucket == buckets[address] ? 3 : FutexKernel.NONE);
            }
        }
    }

    private static void promise27Queue() {
        FutexKernel kernel = mixed();
        int[] order = {5, 4, 1, 2, 3, 6, FutexKernel.NONE};
        for (int place = 0; place < order.length; place++) {
            check.due("27 place " + place, kernel.queueAt(0, place), order[place]);
        }
        check.due("27 another bucket", kernel.queueAt(1, 0), FutexKernel.NONE);
        check.due("27 greatest place", kernel.queueAt(0, Integer.MAX_VALUE), FutexKernel.NONE);
    }

    private static void promise27Refusals() {
        check.noPlace("27 bucket -1", QueuesTest::mixed, kernel -> kernel.queueAt(-1, 0));
        check.noPlace("27 bucket 4", QueuesTest::mixed, kernel -> kernel.queueAt(4, 0));
        check.noPlace("27 place -1", QueuesTest::mixed, kernel -> kernel.queueAt(0, -1));
        check.noPlace("27 least place", QueuesTest::mixed, kernel -> kernel.queueAt(3, Integer.MIN_VALUE));
    }

    /** Puts 5, 4, 1, 2, 3, 6 into the queue of bucket 0: 4 and 2 at the address 7, 1 LOCKING. */
    private static FutexKernel mixed() {
        FutexKernel kernel = new FutexKernel();
        kernel.lock(0, 0, 0);
        kernel.setPriority(5, 9);
        kernel.setPriority(4, 2);
        kernel.lock(1, 0, 0);
        int word = kernel.word(0);
        kernel.await(2, 7, 0, 1, 0);
        kernel.await(3, 0, word, 1, 0);
        kernel.await(4, 7, 0, 1, 0);
        kernel.await(5, 0, word, 1, 0);
        kernel.await(6, 0, word, 1, 0);
        return kernel;
    }
}
