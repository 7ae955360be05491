/** Promises 9 to 13: a test for each sentence that has an edge. */
public final class LocksEdgesTest {
    private static final int LEAST = Integer.MIN_VALUE, GREATEST = Integer.MAX_VALUE;
    private static final int DIED = 1 << 30;
    private static final int WAITERS = 1 << 31;
    private static final int OTHER_BITS = 0x3FFFFF00;
    private static final Check check = new Check();

    public static void main(String[] args) {
        promise9OwnerZero();
        promise9OwnerZeroWithDied();
        promise9OwnerZeroWithWaiters();
        promise9OtherBitsBecomeZero();
        promise9TheThreadItself();
        promise9NoNumberOfAThread();
        promise9OwnerThatIsDead();
        promise9OneOfTheseOwnersIsTheCaller();
        promise9AtMostEightWords();
        promise9TheSearchEnds();
        promise9MustWait();
        promise9Timeouts();
        promise9Refused();
        promise10LeavesTheList();
        promise10NotInTheList();
        promise10ReturnsTheOwner();
        promise10Refused();
        promise10NotTheOwner();
        promise11HowMany();
        promise11Refused();
        promise12Places();
        promise12Refused();
        promise13Directly();
        promise13AndSoOn();
        promise13ItselfDoesNotCount();
        promise13OnlyThoseLocking();
        promise13Refused();
        check.end("LocksEdgesTest");
    }

    private static void promise9OwnerZero() {
        check.sentence("9", "0: the thread gets the lock: the word becomes its number and 1");
        for (int thread = 0; thread < 8; thread++) {
            FutexKernel kernel = new FutexKernel();
            check.due("thread " + thread, kernel.lock(thread, 15, 1), FutexKernel.ACQUIRED);
            check.due("word", kernel.word(15), thread + 1);
            check.due("list", kernel.lockAt(thread, 0), 15);
            check.due("it does not wait", kernel.stateOf(thread), FutexKernel.RUNNING);
            check.due("it has no deadline", kernel.nextTimeout(), FutexKernel.NONE);
            check.due("no wait has ended", kernel.serialOf(thread), 0);
        }
    }

    private static void promise9OwnerZeroWithDied() {
        check.sentence("9", "ACQUIRED_FROM_DEAD if DIED was set, otherwise ACQUIRED.");
        FutexKernel kernel = new FutexKernel();
        kernel.store(0, 0, DIED);
        check.due("DIED", kernel.lock(7, 0, 0), FutexKernel.ACQUIRED_FROM_DEAD);
        check.due("word", kernel.word(0), DIED | 8);
        kernel.store(0, 1, WAITERS | OTHER_BITS);
        check.due("all bits but DIED", kernel.lock(7, 1, 0), FutexKernel.ACQUIRED);
        check.due("word", kernel.word(1), 8);
        kernel.lock(1, 2, 0);
        kernel.exit(1);
        check.due("of one that died", kernel.lock(7, 2, 0), FutexKernel.ACQUIRED_FROM_DEAD);
        check.due("DIED stays", kernel.word(2), DIED | 8);
        kernel.unlock(7, 2);
        check.due("given back, it is as any other", kernel.lock(7, 2, 0), FutexKernel.ACQUIRED);
    }

    private static void promise9OwnerZeroWithWaiters() {
        check.sentence("9", "and with WAITERS if threads are LOCKING at the address");
        FutexKernel kernel = new FutexKernel();
        kernel.lock(0, 3, 0);
        kernel.lock(1, 3, 0);
        kernel.store(0, 3, DIED);
        check.due("free with one LOCKING", kernel.lock(2, 3, 0), FutexKernel.ACQUIRED_FROM_DEAD);
        check.due("both marks", kernel.word(3), WAITERS | DIED | 3);
        kernel.store(0, 3, 0);
        check.due("again", kernel.lock(4, 3, 0), FutexKernel.ACQUIRED);
        check.due("one mark", kernel.word(3), WAITERS | 5);
        check.due("the one LOCKING stays", kernel.stateOf(1), FutexKernel.LOCKING);
        kernel.store(0, 6, WAITERS);
        kernel.await(5, 6, WAITERS, 1, 0);
        check.due("one WAITING there, one LOCKING in the same bucket", kernel.lock(0, 6, 0), FutexKernel.ACQUIRED);
        check.due("no mark, though it was set", kernel.word(6), 1);
    }

    private static void promise9OtherBitsBecomeZero() {
        check.sentence("9", "all other bits become 0");
        for (int bit = 8; bit < 32; bit++) {
            FutexKernel kernel = new FutexKernel();
            kernel.store(0, 0, 1 << bit);
            kernel.lock(0, 0, 0);
            check.due("bit " + bit, kernel.word(0), bit == 30 ? DIED | 1 : 1);
        }
    }

    private static void promise9TheThreadItself() {
        check.sentence("9", "The thread itself: DEADLOCK, and nothing changes.");
        for (int thread = 0; thread < 8; thread++) {
            int owner = thread;
            FutexKernel kernel = overwritten(owner);
            check.due("thread " + owner, kernel.lock(owner, 9, 0), FutexKernel.DEADLOCK);
            check.due("no list", kernel.locks(owner), 0);
            check.unchanged("thread " + owner, () -> overwritten(owner), k -> k.lock(owner, 9, 10000));
        }
        check.unchanged("with others LOCKING", Kernels::everyState, k -> k.lock(0, Kernels.LOCKED, 1));
    }

    /** The word at 9 names the thread as the owner, and has all other bits. */
    private static FutexKernel overwritten(int owner) {
        FutexKernel kernel = new FutexKernel();
        kernel.store(owner, 9, DIED | WAITERS | OTHER_BITS | owner + 1);
        return kernel;
    }

    private static void promise9NoNumberOfAThread() {
        check.sentence("9", "No number of a thread and 1, or a thread that is DEAD: NO_OWNER, and nothing changes.");
        for (int owner = 9; owner <= 255; owner++) {
            FutexKernel kernel = overwritten(owner % 8);
            kernel.store(0, 9, owner);
            check.due("owner " + owner, kernel.lock(0, 9, 0), FutexKernel.NO_OWNER);
            check.due("the word stays", kernel.word(9), owner);
            check.due("it does not wait", kernel.stateOf(0), FutexKernel.RUNNING);
        }
        check.unchanged("owner 9", () -> with(0, 9), k -> k.lock(7, 0, 5));
        check.unchanged("owner 255", () -> with(0, -1), k -> k.lock(7, 0, 5));
    }

    private static FutexKernel with(int address, int word) {
        FutexKernel kernel = Kernels.everyState();
        kernel.store(0, address, word);
        return kernel;
    }

    private static void promise9OwnerThatIsDead() {
        check.sentence("9", "or a thread that is DEAD: NO_OWNER, and nothing changes.");
        check.due("a DEAD one", Kernels.everyState().lock(7, 12, 5), FutexKernel.NO_OWNER);
        check.unchanged("a DEAD one", Kernels::everyState, k -> k.lock(7, 12, 5));
        check.due("with all other bits", with(1, -256 | 4).lock(7, 1, 5), FutexKernel.NO_OWNER);
        check.unchanged("with all other bits", () -> with(1, -256 | 4), k -> k.lock(7, 1, 5));
        FutexKernel kernel = new FutexKernel();
        for (int thread = 0; thread < 7; thread++) {
            kernel.store(7, thread, thread + 1);
            kernel.exit(thread);
            check.due("thread " + thread, kernel.lock(7, thread, 0), FutexKernel.NO_OWNER);
            kernel.start(thread);
            kernel.exit((thread + 1) % 7);
            check.due("started anew", kernel.lock(7, thread, 1), FutexKernel.MUST_WAIT);
            kernel.interrupt(7);
            kernel.start((thread + 1) % 7);
        }
    }

    private static void promise9OneOfTheseOwnersIsTheCaller() {
        check.sentence("9", "if one of these owners is the thread that calls: DEADLOCK, and nothing changes");
        for (int address = 0; address < 7; address++) {
            int at = address;
            check.due("a circle with " + (7 - at) + " others", Kernels.longestChain().lock(7, at, 0),
                    FutexKernel.DEADLOCK);
            check.unchanged("a circle with " + (7 - at) + " others", Kernels::longestChain, k -> k.lock(7, at, 3));
        }
        FutexKernel kernel = new FutexKernel();
        kernel.lock(0, 0, 0);
        kernel.lock(1, 1, 0);
        kernel.lock(0, 1, 0);
        kernel.store(2, 1, 3);
        check.due("the words tell, not the lists", kernel.lock(2, 0, 0), FutexKernel.DEADLOCK);
        check.due("no circle any more", kernel.lock(1, 0, 0), FutexKernel.MUST_WAIT);
    }

    private static void promise9AtMostEightWords() {
        check.sentence("9", "and so on, at most 8 such words");
        // The search goes round in the circle, where the caller is not, and ends at the eighth word.
        FutexKernel kernel = circleOfSeven();
        for (int address = 0; address < 7; address++) {
            check.due("a circle of others, from " + address, kernel.lock(7, address, 0), FutexKernel.MUST_WAIT);
            kernel.interrupt(7);
        }
        FutexKernel self = new FutexKernel();
        self.lock(0, 0, 0);
        self.lock(1, 0, 0);
        self.store(2, 0, 2);
        check.due("one that is LOCKING at its own lock", self.lock(3, 0, 0), FutexKernel.MUST_WAIT);
    }

    private static void promise9TheSearchEnds() {
        check.sentence("9", "The search ends at an owner that is 0, no number of a thread and 1,"
                + " or a thread that is not LOCKING.");
        int[] words = {0, DIED, WAITERS, 9, 255, 6, 5, 4, OTHER_BITS};
        for (int word : words) {
            FutexKernel kernel = new FutexKernel();
            kernel.exit(3);
            kernel.await(4, 9, 0, 1, 0);
            kernel.lock(1, 1, 0);
            kernel.lock(0, 2, 0);
            kernel.lock(1, 2, 0);
            kernel.store(0, 2, word);
            check.due("at " + word, kernel.lock(7, 1, 0), FutexKernel.MUST_WAIT);
        }
        FutexKernel kernel = new FutexKernel();
        kernel.lock(7, 9, 0);
        kernel.lock(1, 1, 0);
        kernel.await(1, 9, 8, 1, 0);
        check.due("at one that is WAITING where the caller is the owner", kernel.lock(7, 1, 0),
                FutexKernel.MUST_WAIT);
    }

    private static void promise9MustWait() {
        check.sentence("9", "Otherwise MUST_WAIT: bit 31 of the word is set, and the thread is LOCKING,"
                + " and joins the queue.");
        FutexKernel kernel = new FutexKernel();
        kernel.store(0, 15, DIED | OTHER_BITS | 1);
        for (int thread = 1; thread < 8; thread++) {
            check.due("thread " + thread, kernel.lock(thread, 15, 0), FutexKernel.MUST_WAIT);
            check.due("only bit 31 changes", kernel.word(15), WAITERS | DIED | OTHER_BITS | 1);
            check.due("state", kernel.stateOf(thread), FutexKernel.LOCKING);
            check.due("address", kernel.addressOf(thread), 15);
            check.due("behind the others", kernel.queueAt(2, thread - 1), thread);
            check.due("no list", kernel.locks(thread), 0);
            check.due("no result", kernel.resultOf(thread), FutexKernel.NONE);
        }
        check.due("all of them", kernel.waiters(15), 7);
        check.due("blocked", kernel.blockedBy(0), 7);
    }

    private static void promise9Timeouts() {
        check.sentence("9", "1 to 10000 ticks; 0 for no deadline");
        FutexKernel kernel = new FutexKernel();
        kernel.lock(0, 0, 0);
        kernel.lock(1, 0, 0);
        check.due("0", kernel.nextTimeout(), FutexKernel.NONE);
        check.due("no deadline, no end", kernel.tick(1000), 0);
        kernel.lock(2, 0, 10000);
        check.due("10000", kernel.nextTimeout(), 10000);
        kernel.lock(3, 0, 1);
        check.due("1", kernel.nextTimeout(), 1);
        check.due("in the first tick", kernel.tick(1), 1);
        check.due("that one", kernel.resultOf(3), FutexKernel.TIMED_OUT);
        check.noArgument("-1", Kernels::everyState, k -> k.lock(7, Kernels.LOCKED, -1));
        check.noArgument("10001", Kernels::everyState, k -> k.lock(7, Kernels.LOCKED, 10001));
        check.noArgument("10001, of a free lock", Kernels::everyState, k -> k.lock(7, 0, 10001));
        check.noArgument("10001, of its own lock", Kernels::everyState, k -> k.lock(0, Kernels.LOCKED, 10001));
        check.noArgument("10001, of a lock without owner", Kernels::everyState, k -> k.lock(7, 12, 10001));
    }

    private static void promise9Refused() {
        check.sentence("9", "if there is no such thread or address");
        check.noPlace("thread -1", Kernels::everyState, k -> k.lock(-1, 0, 0));
        check.noPlace("thread 8, and timeout", Kernels::everyState, k -> k.lock(8, 0, -1));
        check.noPlace("address -1, and timeout", Kernels::everyState, k -> k.lock(7, -1, 10001));
        check.noPlace("address 16, and DEAD", Kernels::everyState, k -> k.lock(3, 16, 0));
        check.sentence("9", "if timeout is out of range");
        check.noArgument("and WAITING", Kernels::everyState, k -> k.lock(1, 0, -1));
        check.noArgument("and DEAD", Kernels::everyState, k -> k.lock(3, 0, 10001));
        check.sentence("9", "if the thread is not RUNNING");
        check.noState("WAITING", Kernels::everyState, k -> k.lock(1, 0, 0));
        check.noState("LOCKING", Kernels::everyState, k -> k.lock(2, 0, 0));
        check.noState("LOCKING, at the same", Kernels::everyState, k -> k.lock(2, Kernels.LOCKED, 0));
        check.noState("DEAD", Kernels::everyState, k -> k.lock(3, 0, 0));
        check.noState("DEAD, the owner by the word", Kernels::everyState, k -> k.lock(3, 12, 0));
    }

    private static void promise10LeavesTheList() {
        check.sentence("10", "the address leaves the list of the thread, if it is in it");
        FutexKernel kernel = Kernels.allLocked();
        kernel.unlock(0, 15);
        check.due("the first", kernel.lockAt(0, 0), 14);
        kernel.unlock(0, 0);
        check.due("the last", kernel.lockAt(0, 13), 1);
        kernel.unlock(0, 7);
        check.due("before one in the middle", kernel.lockAt(0, 6), 8);
        check.due("behind it", kernel.lockAt(0, 7), 6);
        check.due("how many", kernel.locks(0), 13);
        FutexKernel one = new FutexKernel();
        one.lock(5, 5, 0);
        one.unlock(5, 5);
        check.due("the only one", one.locks(5), 0);
    }

    private static void promise10NotInTheList() {
        check.sentence("10", "if it is in it");
        FutexKernel kernel = new FutexKernel();
        kernel.lock(0, 3, 0);
        kernel.lock(0, 4, 0);
        kernel.store(0, 9, 1);
        check.due("an overwritten word", kernel.unlock(0, 9), FutexKernel.NONE);
        check.due("word", kernel.word(9), 0);
        check.due("the list stays", kernel.locks(0), 2);
        kernel.store(0, 3, 2);
        check.due("a lock of another's list", kernel.unlock(1, 3), FutexKernel.NONE);
        check.due("it stays in that list", kernel.lockAt(0, 0), 3);
        check.due("an empty list", kernel.locks(1), 0);
        check.due("word", kernel.word(3), 0);
    }

    private static void promise10ReturnsTheOwner() {
        check.sentence("10", "Returns the thread that is the owner then; NONE if there is none.");
        FutexKernel kernel = new FutexKernel();
        kernel.lock(7, 0, 0);
        kernel.lock(0, 0, 5);
        check.due("thread 0", kernel.unlock(7, 0), 0);
        check.due("its word", kernel.word(0), 1);
        kernel.lock(7, 0, 5);
        check.due("thread 7", kernel.unlock(0, 0), 7);
        check.due("its word", kernel.word(0), 8);
        check.due("nobody", kernel.unlock(7, 0), FutexKernel.NONE);
        check.due("word", kernel.word(0), 0);
        check.due("no deadline is left", kernel.nextTimeout(), FutexKernel.NONE);
        check.due("two waits have ended", kernel.serialOf(7), 2);
    }

    private static void promise10Refused() {
        check.sentence("10", "if there is no such thread or address");
        check.noPlace("thread -1", Kernels::everyState, k -> k.unlock(-1, Kernels.LOCKED));
        check.noPlace("thread 8", Kernels::everyState, k -> k.unlock(8, Kernels.LOCKED));
        check.noPlace("address -1", Kernels::everyState, k -> k.unlock(0, -1));
        check.noPlace("address 16, and DEAD", Kernels::everyState, k -> k.unlock(3, 16));
        check.sentence("10", "if the thread is not RUNNING");
        check.noState("WAITING, the owner by the word", () -> with(1, 2), k -> k.unlock(1, 1));
        check.noState("LOCKING, the owner by the word", () -> with(1, 3), k -> k.unlock(2, 1));
        check.noState("LOCKING there, too", () -> with(Kernels.LOCKED, 3), k -> k.unlock(2, Kernels.LOCKED));
        check.noState("DEAD, the owner by the word", Kernels::everyState, k -> k.unlock(3, 12));
    }

    private static void promise10NotTheOwner() {
        check.sentence("10", "or not the owner by the word");
        check.noState("another one is", Kernels::everyState, k -> k.unlock(7, Kernels.LOCKED));
        check.noState("nobody is", Kernels::everyState, k -> k.unlock(7, 0));
        check.noState("no thread is", () -> with(1, 9), k -> k.unlock(0, 1));
        check.noState("its number in other bits", () -> with(1, 0x100), k -> k.unlock(0, 1));
        check.noState("its number, and the eighth bit", () -> with(1, 0x81), k -> k.unlock(0, 1));
        check.noState("in the list, overwritten", () -> with(4, 0), k -> k.unlock(0, 4));
        check.noState("in the list, of another now", () -> with(4, 8), k -> k.unlock(0, 4));
    }

    private static void promise11HowMany() {
        check.sentence("11", "Returns how many addresses are in the list of locks of a thread.");
        FutexKernel kernel = new FutexKernel();
        for (int address = 0; address < 16; address++) {
            check.due("before " + address, kernel.locks(7), address);
            kernel.lock(7, address, 0);
            kernel.lock(7, address, 0);
        }
        check.due("all", kernel.locks(7), 16);
        check.due("of another", kernel.locks(6), 0);
        for (int address = 15; address >= 0; address--) {
            kernel.unlock(7, address);
            check.due("after " + address, kernel.locks(7), address);
        }
        FutexKernel died = Kernels.allLocked();
        died.exit(0);
        check.due("of one that is DEAD", died.locks(0), 0);
        check.due("while LOCKING", Kernels.longestChain().locks(3), 1);
        check.unchanged("asking", Kernels::everyState, k -> k.locks(0));
    }

    private static void promise11Refused() {
        check.sentence("11", "if there is no such thread");
        check.noPlace("-1", Kernels::everyState, k -> k.locks(-1));
        check.noPlace("8", Kernels::everyState, k -> k.locks(8));
        check.noPlace("the least", Kernels::everyState, k -> k.locks(LEAST));
        check.noPlace("the greatest", Kernels::everyState, k -> k.locks(GREATEST));
    }

    private static void promise12Places() {
        check.sentence("12", "0 for the first one");
        FutexKernel kernel = Kernels.allLocked();
        for (int place = 0; place < 16; place++) {
            check.due("place " + place, kernel.lockAt(0, place), 15 - place);
        }
        check.unchanged("asking", Kernels::everyState, k -> k.lockAt(0, 0));
    }

    private static void promise12Refused() {
        check.sentence("12", "if there is no such thread or place");
        check.noPlace("thread -1", Kernels::everyState, k -> k.lockAt(-1, 0));
        check.noPlace("thread 8", Kernels::everyState, k -> k.lockAt(8, 0));
        check.noPlace("place -1", Kernels::everyState, k -> k.lockAt(0, -1));
        check.noPlace("behind the last", Kernels::everyState, k -> k.lockAt(0, 2));
        check.noPlace("an empty list", Kernels::everyState, k -> k.lockAt(7, 0));
        check.noPlace("of one that is DEAD", Kernels::everyState, k -> k.lockAt(3, 0));
        check.noPlace("behind a full list", Kernels::allLocked, k -> k.lockAt(0, 16));
        check.noPlace("the least", Kernels::allLocked, k -> k.lockAt(0, LEAST));
        check.noPlace("the greatest", Kernels::allLocked, k -> k.lockAt(0, GREATEST));
        check.noPlace("where one was", LocksEdgesTest::oneGivenBack, k -> k.lockAt(0, 15));
    }

    private static FutexKernel oneGivenBack() {
        FutexKernel kernel = Kernels.allLocked();
        kernel.unlock(0, 3);
        return kernel;
    }

    private static void promise13Directly() {
        check.sentence("13", "those that are LOCKING at an address whose word names it as the owner");
        FutexKernel kernel = new FutexKernel();
        kernel.lock(0, 0, 0);
        kernel.lock(0, 15, 0);
        check.due("nobody", kernel.blockedBy(0), 0);
        for (int thread = 1; thread < 8; thread++) {
            kernel.lock(thread, thread % 2 == 0 ? 0 : 15, 0);
            check.due("up to " + thread, kernel.blockedBy(0), thread);
            check.due("of the last", kernel.blockedBy(thread), 0);
        }
        kernel.store(0, 15, WAITERS | 3);
        check.due("one word is overwritten: the others", kernel.blockedBy(0), 7);
        kernel.store(0, 0, 0);
        check.due("no owner", kernel.blockedBy(0), 0);
        check.due("the other owner", kernel.blockedBy(2), 4);
        kernel.store(0, 15, 255);
        check.due("no thread", kernel.blockedBy(2), 0);
    }

    private static void promise13AndSoOn() {
        check.sentence("13", "or names one of those, and so on");
        FutexKernel kernel = Kernels.longestChain();
        for (int thread = 0; thread < 8; thread++) {
            check.due("of " + thread, kernel.blockedBy(thread), thread);
        }
        kernel.interrupt(3);
        check.due("the chain is broken", kernel.blockedBy(7), 3);
        check.due("its other part", kernel.blockedBy(3), 3);
        check.unchanged("asking", Kernels::longestChain, k -> k.blockedBy(7));
    }

    private static void promise13ItselfDoesNotCount() {
        check.sentence("13", "The thread itself does not count.");
        FutexKernel circle = circleOfSeven();
        for (int thread = 0; thread < 7; thread++) {
            check.due("of the circle, " + thread, circle.blockedBy(thread), 6);
        }
        check.due("of the one outside", circle.blockedBy(7), 0);
        check.due("one that leads to it", circle.lock(7, 3, 0), FutexKernel.MUST_WAIT);
        check.due("it counts", circle.blockedBy(0), 7);
        check.due("it blocks nobody", circle.blockedBy(7), 0);
        FutexKernel own = new FutexKernel();
        own.lock(0, 0, 0);
        own.lock(1, 0, 0);
        own.store(0, 0, 2);
        check.due("LOCKING at its own lock", own.blockedBy(1), 0);
    }

    /** Each of 0 to 6 is LOCKING at the lock of the next one, and 6 at that of 0. */
    private static FutexKernel circleOfSeven() {
        FutexKernel kernel = new FutexKernel();
        for (int thread = 0; thread < 7; thread++) {
            kernel.lock(thread, thread, 0);
        }
        for (int thread = 0; thread < 6; thread++) {
            kernel.lock(thread, thread + 1, 0);
        }
        kernel.store(7, 6, 8);
        kernel.lock(6, 0, 0);
        kernel.store(7, 6, 7);
        return kernel;
    }

    private static void promise13OnlyThoseLocking() {
        check.sentence("13", "Returns how many threads cannot go on before a thread does");
        FutexKernel kernel = new FutexKernel();
        kernel.lock(0, 0, 0);
        kernel.lock(1, 1, 0);
        kernel.await(1, 0, 1, 1, 0);
        kernel.lock(2, 1, 0);
        check.due("one WAITING there, and one that it blocks", kernel.blockedBy(0), 0);
        check.due("of one WAITING", kernel.blockedBy(1), 1);
        kernel.exit(3);
        kernel.store(0, 1, 4);
        check.due("of one that is DEAD and named by the word", kernel.blockedBy(3), 1);
    }

    private static void promise13Refused() {
        check.sentence("13", "if there is no such thread");
        check.noPlace("-1", Kernels::everyState, k -> k.blockedBy(-1));
        check.noPlace("8", Kernels::everyState, k -> k.blockedBy(8));
        check.noPlace("the least", Kernels::everyState, k -> k.blockedBy(LEAST));
        check.noPlace("the greatest", Kernels::everyState, k -> k.blockedBy(GREATEST));
        check.noPlace("32, whose bit is that of 0", Kernels::everyState, k -> k.blockedBy(32));
    }
}
