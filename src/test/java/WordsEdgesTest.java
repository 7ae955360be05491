/** Promises 1 to 5: a test for each sentence that has an edge. */
public final class WordsEdgesTest {
    private static final int LEAST = Integer.MIN_VALUE, GREATEST = Integer.MAX_VALUE;
    private static final int[] VALUES = {0, 1, -1, LEAST, GREATEST, LEAST + 1, GREATEST - 1, 255, 256};
    private static final Check check = new Check();

    public static void main(String[] args) {
        promise1WordsAreZero();
        promise1ThreadsAreRunning();
        promise1TimeIsZero();
        promise2WritesAnyValue();
        promise2ReturnsTheValueBefore();
        promise2Refused();
        promise3WritesIfExpected();
        promise3ReturnsWhether();
        promise3Refused();
        promise4AddsWith32Bits();
        promise4ReturnsTheValueBefore();
        promise4Refused();
        promise5ReturnsItsValue();
        promise5Refused();
        check.end("WordsEdgesTest");
    }

    private static void promise1WordsAreZero() {
        check.sentence("1", "All words are 0");
        FutexKernel kernel = new FutexKernel();
        for (int address = 0; address < 16; address++) {
            check.due("word " + address, kernel.word(address), 0);
            check.due("value before " + address, kernel.store(address % 8, address, 1), 0);
        }
    }

    private static void promise1ThreadsAreRunning() {
        check.sentence("1", "all threads are RUNNING with the priority 0");
        FutexKernel kernel = new FutexKernel();
        for (int thread = 0; thread < 8; thread++) {
            check.due("state", kernel.stateOf(thread), FutexKernel.RUNNING);
            check.due("address", kernel.addressOf(thread), FutexKernel.NONE);
            check.due("result", kernel.resultOf(thread), FutexKernel.NONE);
            check.due("serial", kernel.serialOf(thread), 0);
            check.due("locks", kernel.locks(thread), 0);
            check.due("priority", kernel.setPriority(thread, 9), 0);
        }
        for (int bucket = 0; bucket < 4; bucket++) {
            check.due("queue", kernel.queueAt(bucket, 0), FutexKernel.NONE);
        }
    }

    private static void promise1TimeIsZero() {
        check.sentence("1", "and the time is 0");
        FutexKernel kernel = new FutexKernel();
        check.due("now", kernel.now(), 0);
        check.due("deadline", kernel.nextTimeout(), FutexKernel.NONE);
        kernel.await(0, 0, 0, 1, 1);
        check.due("a deadline from then on", kernel.nextTimeout(), 1);
    }

    private static void promise2WritesAnyValue() {
        check.sentence("2", "Writes a word.");
        FutexKernel kernel = new FutexKernel();
        for (int value : VALUES) {
            kernel.store(7, 15, value);
            check.due("word", kernel.word(15), value);
            check.due("the word before it", kernel.word(14), 0);
            check.due("the first word", kernel.word(0), 0);
        }
    }

    private static void promise2ReturnsTheValueBefore() {
        check.sentence("2", "Returns the value before.");
        FutexKernel kernel = new FutexKernel();
        int before = 0;
        for (int value : VALUES) {
            check.due("before " + value, kernel.store(0, 0, value), before);
            check.due("the same again", kernel.store(7, 0, value), value);
            before = value;
        }
    }

    private static void promise2Refused() {
        check.sentence("2", "if there is no such thread or address");
        check.noPlace("thread -1", Kernels::everyState, k -> k.store(-1, 0, 1));
        check.noPlace("thread 8", Kernels::everyState, k -> k.store(8, 0, 1));
        check.noPlace("address -1", Kernels::everyState, k -> k.store(0, -1, 1));
        check.noPlace("address 16", Kernels::everyState, k -> k.store(0, 16, 1));
        check.noPlace("neither", Kernels::everyState, k -> k.store(LEAST, GREATEST, 1));
        check.sentence("2", "if the thread is not RUNNING");
        check.noState("WAITING", Kernels::everyState, k -> k.store(1, 0, 1));
        check.noState("LOCKING", Kernels::everyState, k -> k.store(2, 0, 1));
        check.noState("DEAD", Kernels::everyState, k -> k.store(3, 0, 1));
        check.noState("the word that it would write", Kernels::everyState, k -> k.store(3, 0, 0));
    }

    private static void promise3WritesIfExpected() {
        check.sentence("3", "Writes a word if it has an expected value.");
        FutexKernel kernel = new FutexKernel();
        int before = 0;
        for (int value : VALUES) {
            kernel.compareAndSet(7, 15, before, value);
            check.due("written", kernel.word(15), value);
            kernel.compareAndSet(0, 15, value ^ 1, 77);
            check.due("another lowest bit", kernel.word(15), value);
            kernel.compareAndSet(0, 15, value ^ LEAST, 77);
            check.due("another highest bit", kernel.word(15), value);
            before = value;
        }
        check.unchanged("not expected", Kernels::everyState, k -> k.compareAndSet(0, 0, 1, 7));
    }

    private static void promise3ReturnsWhether() {
        check.sentence("3", "Returns whether the word had the expected value.");
        FutexKernel kernel = new FutexKernel();
        for (int value : VALUES) {
            kernel.store(0, 3, value);
            check.due("not", kernel.compareAndSet(0, 3, value + 1, value), false);
            check.due("had it, and has it still", kernel.compareAndSet(0, 3, value, value), true);
            check.due("had it", kernel.compareAndSet(0, 3, value, value + 1), true);
            check.due("has it no more", kernel.compareAndSet(0, 3, value, value + 1), false);
        }
    }

    private static void promise3Refused() {
        check.sentence("3", "if there is no such thread or address");
        check.noPlace("thread -1", Kernels::everyState, k -> k.compareAndSet(-1, 0, 0, 1));
        check.noPlace("thread 8", Kernels::everyState, k -> k.compareAndSet(8, 0, 0, 1));
        check.noPlace("address -1", Kernels::everyState, k -> k.compareAndSet(0, -1, 0, 1));
        check.noPlace("address 16", Kernels::everyState, k -> k.compareAndSet(0, 16, 0, 1));
        check.sentence("3", "if the thread is not RUNNING");
        check.noState("WAITING", Kernels::everyState, k -> k.compareAndSet(1, 0, 0, 1));
        check.noState("LOCKING", Kernels::everyState, k -> k.compareAndSet(2, 0, 0, 1));
        check.noState("DEAD", Kernels::everyState, k -> k.compareAndSet(3, 0, 0, 1));
        check.noState("DEAD, and not expected", Kernels::everyState, k -> k.compareAndSet(3, 0, 5, 1));
    }

    private static void promise4AddsWith32Bits() {
        check.sentence("4", "Adds to a word, with 32 bits.");
        added(GREATEST, 1, LEAST);
        added(LEAST, -1, GREATEST);
        added(LEAST, LEAST, 0);
        added(GREATEST, GREATEST, -2);
        added(-1, 1, 0);
        added(0, -1, -1);
        added(-1, LEAST, GREATEST);
        added(5, 0, 5);
        added(255, 1, 256);
    }

    private static void added(int word, int delta, int sum) {
        FutexKernel kernel = new FutexKernel();
        kernel.store(0, 15, word);
        check.due("before", kernel.fetchAdd(7, 15, delta), word);
        check.due(word + " and " + delta, kernel.word(15), sum);
        check.due("the word before it", kernel.word(14), 0);
    }

    private static void promise4ReturnsTheValueBefore() {
        check.sentence("4", "Returns the value before.");
        FutexKernel kernel = new FutexKernel();
        int sum = 0;
        for (int value : VALUES) {
            check.due("before", kernel.fetchAdd(0, 0, value), sum);
            sum += value;
        }
        check.due("at last", kernel.word(0), sum);
    }

    private static void promise4Refused() {
        check.sentence("4", "if there is no such thread or address");
        check.noPlace("thread -1", Kernels::everyState, k -> k.fetchAdd(-1, 0, 1));
        check.noPlace("thread 8", Kernels::everyState, k -> k.fetchAdd(8, 0, 1));
        check.noPlace("address -1", Kernels::everyState, k -> k.fetchAdd(0, -1, 1));
        check.noPlace("address 16", Kernels::everyState, k -> k.fetchAdd(0, 16, 1));
        check.sentence("4", "if the thread is not RUNNING");
        check.noState("WAITING", Kernels::everyState, k -> k.fetchAdd(1, 0, 1));
        check.noState("LOCKING", Kernels::everyState, k -> k.fetchAdd(2, 0, 1));
        check.noState("DEAD", Kernels::everyState, k -> k.fetchAdd(3, 0, 1));
        check.noState("DEAD, nothing added", Kernels::everyState, k -> k.fetchAdd(3, 0, 0));
    }

    private static void promise5ReturnsItsValue() {
        check.sentence("5", "Returns its value.");
        FutexKernel kernel = new FutexKernel();
        for (int address = 0; address < 16; address++) {
            kernel.store(0, address, LEAST + address);
        }
        for (int address = 0; address < 16; address++) {
            check.due("word " + address, kernel.word(address), LEAST + address);
        }
        check.unchanged("reading", Kernels::everyState, k -> k.word(Kernels.LOCKED));
    }

    private static void promise5Refused() {
        check.sentence("5", "if there is no such address");
        check.noPlace("-1", Kernels::everyState, k -> k.word(-1));
        check.noPlace("16", Kernels::everyState, k -> k.word(16));
        check.noPlace("the least", Kernels::everyState, k -> k.word(LEAST));
        check.noPlace("the greatest", Kernels::everyState, k -> k.word(GREATEST));
    }
}
