/** A kernel's table of waiting threads (futexes). */
public final class FutexKernel {
    public static final int NONE = -1;
    public static final int RUNNING = 0, WAITING = 1, LOCKING = 2, DEAD = 3;
    public static final int WOKEN = 0, TIMED_OUT = 1, INTERRUPTED = 2, HANDED = 3, OWNER_DIED = 4;
    public static final int ACQUIRED = 0, ACQUIRED_FROM_DEAD = 1, MUST_WAIT = 2, DEADLOCK = 3, NO_OWNER = 4;

    private static final int THREADS = 8;
    private static final int ADDRESSES = 16;
    private static final int BUCKETS = 4;
    private static final int TOP_PRIORITY = 9;
    private static final int LONGEST_TIMEOUT = 10000;
    private static final int MOST_TICKS = 1000;
    private static final int SEARCHED_WORDS = 8;

    /** Every bit of a mask. */
    private static final int ANY = 255;

    /** The bits of a lock's word. */
    private static final int OWNER = 255;
    private static final int DIED = 1 << 30;
    private static final int WAITERS = 1 << 31;

    private final int[] words = new int[ADDRESSES];
    private final Task[] tasks = new Task[THREADS];
    private int time = 0;
    private int endedWaits = 0;
    private int begunWaits = 0;
    private int joins = 0;

    public FutexKernel() {
        for (int thread = 0; thread < THREADS; thread++) {
            tasks[thread] = new Task(thread);
        }
    }

    // ---- words

    public int store(int thread, int address, int value) throws IndexOutOfBoundsException, IllegalStateException {
        Task task = taskOf(thread);
        requireAddress(address);
        requireRunning(task);
        int before = words[address];
        words[address] = value;
        return before;
    }

    public boolean compareAndSet(int thread, int address, int expected, int value)
            throws IndexOutOfBoundsException, IllegalStateException {
        Task task = taskOf(thread);
        requireAddress(address);
        requireRunning(task);
        if (words[address] != expected) {
            return false;
        }
        words[address] = value;
        return true;
    }

    public int fetchAdd(int thread, int address, int delta) throws IndexOutOfBoundsException, IllegalStateException {
        Task task = taskOf(thread);
        requireAddress(address);
        requireRunning(task);
        int before = words[address];
        words[address] = before + delta;
        return before;
    }

    public int word(int address) throws IndexOutOfBoundsException {
        requireAddress(address);
        return words[address];
    }

    // ---- waiting and waking

    public boolean await(int thread, int address, int expected, int mask, int timeout)
            throws IndexOutOfBoundsException, IllegalArgumentException, IllegalStateException {
        Task task = taskOf(thread);
        requireAddress(address);
        requireBetween(mask, 1, ANY);
        requireBetween(timeout, 0, LONGEST_TIMEOUT);
        requireRunning(task);
        if (words[address] != expected) {
            return false;
        }
        beginWait(task, WAITING, address, mask, timeout);
        return true;
    }

    public int wake(int thread, int address, int most, int mask)
            throws IndexOutOfBoundsException, IllegalArgumentException, IllegalStateException {
        Task task = taskOf(thread);
        requireAddress(address);
        requireBetween(most, 1, THREADS);
        requireBetween(mask, 1, ANY);
        requireRunning(task);
        return wakeFirst(address, most, mask);
    }

    public int requeue(int thread, int from, int expected, int wakes, int to, int moves)
            throws IndexOutOfBoundsException, IllegalArgumentException, IllegalStateException {
        Task task = taskOf(thread);
        requireAddress(from);
        requireAddress(to);
        if (from == to) {
            throw new IllegalArgumentException("from and to are the same");
        }
        requireBetween(wakes, 0, THREADS);
        requireBetween(moves, 0, THREADS);
        requireRunning(task);
        if (words[from] != expected) {
            return NONE;
        }
        int woken = wakeFirst(from, wakes, ANY);
        return woken + moveFirst(from, to, moves);
    }

    // ---- locks

    public int lock(int thread, int address, int timeout)
            throws IndexOutOfBoundsException, IllegalArgumentException, IllegalStateException {
        Task task = taskOf(thread);
        requireAddress(address);
        requireBetween(timeout, 0, LONGEST_TIMEOUT);
        requireRunning(task);
        int before = words[address];
        if ((before & OWNER) == 0) {
            giveLock(task, address, before & DIED);
            return (before & DIED) == 0 ? ACQUIRED : ACQUIRED_FROM_DEAD;
        }
        Task owner = ownerAt(address);
        if (owner == null || owner.state == DEAD) {
            return NO_OWNER;
        }
        if (owner == task || isHeldUpBy(owner, task)) {
            return DEADLOCK;
        }
        words[address] = before | WAITERS;
        beginWait(task, LOCKING, address, ANY, timeout);
        return MUST_WAIT;
    }

    public int unlock(int thread, int address) throws IndexOutOfBoundsException, IllegalStateException {
        Task task = taskOf(thread);
        requireAddress(address);
        requireRunning(task);
        if (ownerAt(address) != task) {
            throw new IllegalStateException("not the owner");
        }
        task.held.drop(address);
        return passOn(address, false);
    }

    public int locks(int thread) throws IndexOutOfBoundsException {
        return taskOf(thread).held.size;
    }

    public int lockAt(int thread, int place) throws IndexOutOfBoundsException {
        LockList held = taskOf(thread).held;
        if (place < 0 || place >= held.size) {
            throw new IndexOutOfBoundsException("no such place");
        }
        return held.addressAt(place);
    }

    public int blockedBy(int thread) throws IndexOutOfBoundsException {
        int blockers = taskOf(thread).bit();
        // Each round goes one lock further, and no chain is longer than all threads.
        for (int round = 0; round < THREADS; round++) {
            blockers = blockers | blockedByOneOf(blockers);
        }
        return Integer.bitCount(blockers) - 1;
    }

    // ---- threads and time

    public void interrupt(int thread) throws IndexOutOfBoundsException, IllegalStateException {
        Task task = taskOf(thread);
        if (!task.isQueued()) {
            throw new IllegalStateException("neither WAITING nor LOCKING");
        }
        endWait(task, INTERRUPTED);
    }

    public int exit(int thread) throws IndexOutOfBoundsException, IllegalStateException {
        Task task = taskOf(thread);
        requireAlive(task);
        if (task.isQueued()) {
            leaveQueue(task);
        }
        task.state = DEAD;
        int passedOn = 0;
        int size = task.held.size;
        for (int place = 0; place < size; place++) {
            int address = task.held.addressAt(place);
            if (ownerAt(address) == task) {
                passOn(address, true);
                passedOn++;
            }
        }
        task.held.clear();
        return passedOn;
    }

    public void start(int thread) throws IndexOutOfBoundsException, IllegalStateException {
        Task task = taskOf(thread);
        if (task.state != DEAD) {
            throw new IllegalStateException("not DEAD");
        }
        task.state = RUNNING;
        task.priority = 0;
        task.result = NONE;
        task.serial = 0;
    }

    public int setPriority(int thread, int priority)
            throws IndexOutOfBoundsException, IllegalArgumentException, IllegalStateException {
        Task task = taskOf(thread);
        requireBetween(priority, 0, TOP_PRIORITY);
        requireAlive(task);
        int before = task.priority;
        if (priority != before) {
            task.priority = priority;
            if (task.isQueued()) {
                joinQueue(task, task.address);
            }
        }
        return before;
    }

    public int tick(int ticks) throws IllegalArgumentException {
        requireBetween(ticks, 1, MOST_TICKS);
        int end = time + ticks;
        int timedOut = 0;
        // No wait begins during a tick, so each thread's wait ends at most once.
        for (int round = 0; round < THREADS; round++) {
            Task task = firstToTimeOut();
            if (task == null || task.deadline > end) {
                break;
            }
            endWait(task, TIMED_OUT);
            timedOut++;
        }
        time = end;
        return timedOut;
    }

    public int now() {
        return time;
    }

    public int nextTimeout() {
        Task task = firstToTimeOut();
        return task == null ? NONE : task.deadline - time;
    }

    public int stateOf(int thread) throws IndexOutOfBoundsException {
        return taskOf(thread).state;
    }

    public int addressOf(int thread) throws IndexOutOfBoundsException {
        return taskOf(thread).address;
    }

    public int resultOf(int thread) throws IndexOutOfBoundsException {
        return taskOf(thread).result;
    }

    public int serialOf(int thread) throws IndexOutOfBoundsException {
        return taskOf(thread).serial;
    }

    // ---- queues

    public int waiters(int address) throws IndexOutOfBoundsException {
        requireAddress(address);
        int count = 0;
        for (Task task : tasks) {
            if (task.address == address) {
                count++;
            }
        }
        return count;
    }

    public int waiterAt(int address, int place) throws IndexOutOfBoundsException {
        requireAddress(address);
        for (Task task : tasks) {
            if (task.address == address && countAheadAtAddress(task) == place) {
                return task.number;
            }
        }
        throw new IndexOutOfBoundsException("no such place");
    }

    public int queueAt(int bucket, int place) throws IndexOutOfBoundsException {
        if (bucket < 0 || bucket >= BUCKETS || place < 0) {
            throw new IndexOutOfBoundsException("no such bucket or place");
        }
        for (Task task : tasks) {
            if (task.isQueued() && bucketOf(task.address) == bucket && countAheadInBucket(task) == place) {
                return task.number;
            }
        }
        return NONE;
    }

    // ---- what the calls ask of their arguments

    private Task taskOf(int thread) {
        if (thread < 0 || thread >= THREADS) {
            throw new IndexOutOfBoundsException("no such thread");
        }
        return tasks[thread];
    }

    private static boolean isAddress(int address) {
        return address >= 0 && address < ADDRESSES;
    }

    private static void requireAddress(int address) {
        if (!isAddress(address)) {
            throw new IndexOutOfBoundsException("no such address");
        }
    }

    private static void requireBetween(int value, int least, int greatest) {
        if (value < least || value > greatest) {
            throw new IllegalArgumentException("out of range");
        }
    }

    private static void requireRunning(Task task) {
        if (task.state != RUNNING) {
            throw new IllegalStateException("not RUNNING");
        }
    }

    private static void requireAlive(Task task) {
        if (task.state == DEAD) {
            throw new IllegalStateException("DEAD");
        }
    }

    // ---- the queues: their order is told by priorities and joins, no list of them is kept

    private static int bucketOf(int address) {
        return (address + address / 4) % BUCKETS;
    }

    private void joinQueue(Task task, int address) {
        task.address = address;
        joins++;
        task.joined = joins;
    }

    private int countAheadAtAddress(Task task) {
        int count = 0;
        for (Task other : tasks) {
            if (other.address == task.address && other.isAheadOf(task)) {
                count++;
            }
        }
        return count;
    }

    private int countAheadInBucket(Task task) {
        int count = 0;
        for (Task other : tasks) {
            if (other.isQueued() && bucketOf(other.address) == bucketOf(task.address) && other.isAheadOf(task)) {
                count++;
            }
        }
        return count;
    }

    /** The first one at the address with the state and a bit of the mask; null if there is none. */
    private Task firstAt(int address, int state, int mask) {
        Task first = null;
        for (Task task : tasks) {
            boolean fits = task.address == address && task.state == state && (task.mask & mask) != 0;
            if (fits && (first == null || task.isAheadOf(first))) {
                first = task;
            }
        }
        return first;
    }

    private Task firstLockingAt(int address) {
        return firstAt(address, LOCKING, ANY);
    }

    // ---- how waits begin, end and move

    private void beginWait(Task task, int state, int address, int mask, int timeout) {
        task.state = state;
        task.mask = mask;
        task.deadline = timeout == 0 ? NONE : time + timeout;
        begunWaits++;
        task.begun = begunWaits;
        joinQueue(task, address);
    }

    private void endWait(Task task, int result) {
        leaveQueue(task);
        task.result = result;
        endedWaits++;
        task.serial = endedWaits;
    }

    private void leaveQueue(Task task) {
        int address = task.address;
        boolean wasLocking = task.state == LOCKING;
        task.state = RUNNING;
        task.address = NONE;
        task.deadline = NONE;
        // If the lock is being handed to the task, the word is written anew right after this.
        if (wasLocking && isAddress(address) && firstLockingAt(address) == null) {
            words[address] = words[address] & ~WAITERS;
        }
    }

    private int wakeFirst(int address, int most, int mask) {
        for (int woken = 0; woken < most; woken++) {
            Task task = firstAt(address, WAITING, mask);
            if (task == null) {
                return woken;
            }
            endWait(task, WOKEN);
        }
        return most;
    }

    private int moveFirst(int from, int to, int most) {
        for (int moved = 0; moved < most; moved++) {
            Task task = firstAt(from, WAITING, ANY);
            if (task == null) {
                return moved;
            }
            joinQueue(task, to);
        }
        return most;
    }

    /** The one whose wait times out next, of several the one that began first; null if there is none. */
    private Task firstToTimeOut() {
        Task first = null;
        for (Task task : tasks) {
            if (task.deadline != NONE && (first == null || task.timesOutBefore(first))) {
                first = task;
            }
        }
        return first;
    }

    // ---- how locks are owned and passed on

    /** The thread that the word names as the owner; null if it names none. */
    private Task ownerAt(int address) {
        if (!isAddress(address)) {
            return null;
        }
        int owner = words[address] & OWNER;
        return owner >= 1 && owner <= THREADS ? tasks[owner - 1] : null;
    }

    private void giveLock(Task task, int address, int died) {
        if (isAddress(address)) {
            int waiters = firstLockingAt(address) == null ? 0 : WAITERS;
            words[address] = (task.number + 1) | died | waiters;
            task.held.add(address);
        }
    }

    /** Returns the thread that is the owner then; NONE if there is none. */
    private int passOn(int address, boolean ownerDied) {
        int died = ownerDied ? DIED : 0;
        Task next = firstLockingAt(address);
        if (next != null) {
            endWait(next, ownerDied ? OWNER_DIED : HANDED);
            giveLock(next, address, died);
            return next.number;
        }
        if (isAddress(address)) {
            words[address] = died;
        }
        return NONE;
    }

    /** Whether the task waits for a lock of the other one, or of a thread that waits for one of it, and so on. */
    private boolean isHeldUpBy(Task task, Task other) {
        Task waiting = task;
        for (int searched = 0; searched < SEARCHED_WORDS; searched++) {
            if (waiting == null || waiting.state != LOCKING) {
                return false;
            }
            waiting = ownerAt(waiting.address);
            if (waiting == other) {
                return true;
            }
        }
        return false;
    }

    /** The threads, a bit for each, that are LOCKING where the word names one of the blockers. */
    private int blockedByOneOf(int blockers) {
        int blocked = 0;
        for (Task task : tasks) {
            Task owner = task.state == LOCKING ? ownerAt(task.address) : null;
            if (owner != null && (owner.bit() & blockers) != 0) {
                blocked = blocked | task.bit();
            }
        }
        return blocked;
    }

    /** A thread, and its wait while it is in a queue; its address is NONE while it is in none. */
    private static final class Task {
        final int number;
        final LockList held = new LockList();
        int state = RUNNING;
        int priority = 0;
        int address = NONE;
        int mask = 0;
        int deadline = NONE;
        int begun = 0;
        int joined = 0;
        int result = NONE;
        int serial = 0;

        Task(int number) {
            this.number = number;
        }

        int bit() {
            return 1 << number;
        }

        boolean isQueued() {
            return address != NONE;
        }

        boolean isAheadOf(Task other) {
            return priority > other.priority || priority == other.priority && joined < other.joined;
        }

        boolean timesOutBefore(Task other) {
            return deadline < other.deadline || deadline == other.deadline && begun < other.begun;
        }
    }

    /** The addresses of a thread's locks in the order in which it got them, each at most once. */
    private static final class LockList {
        private final int[] addresses = new int[ADDRESSES];
        int size = 0;

        int addressAt(int place) {
            return place >= 0 && place < size ? addresses[place] : NONE;
        }

        void add(int address) {
            if (placeOf(address) == NONE && size < ADDRESSES) {
                addresses[size] = address;
                size++;
            }
        }

        void clear() {
            size = 0;
        }

        void drop(int address) {
            int place = placeOf(address);
            if (place != NONE) {
                for (int next = place + 1; next < size; next++) {
                    addresses[next - 1] = addresses[next];
                }
                size--;
            }
        }

        private int placeOf(int address) {
            for (int place = 0; place < size; place++) {
                if (addresses[place] == address) {
                    return place;
                }
            }
            return NONE;
        }
    }
}
