import java.util.ArrayList;
import java.util.List;

/** A second way to do what the document says, with real queues and one tick at a time; ModelTest compares the two. */
final class Model {
    private static final int BIT31 = 0x80000000;
    private static final int BIT30 = 0x40000000;

    private final int[] words = new int[16];
    private final int[] states = new int[8];
    private final int[] priorities = new int[8];
    private final int[] addresses = {-1, -1, -1, -1, -1, -1, -1, -1};
    private final int[] masks = new int[8];
    private final int[] left = new int[8];
    private final int[] results = {-1, -1, -1, -1, -1, -1, -1, -1};
    private final int[] serials = new int[8];
    private final List<List<Integer>> queues = new ArrayList<>();
    private final List<List<Integer>> lists = new ArrayList<>();
    /** The threads in a queue, the one whose wait began first in front. */
    private final List<Integer> byBegin = new ArrayList<>();
    private int time = 0;
    private int lastSerial = 0;

    Model() {
        for (int bucket = 0; bucket < 4; bucket++) {
            queues.add(new ArrayList<>());
        }
        for (int thread = 0; thread < 8; thread++) {
            lists.add(new ArrayList<>());
        }
    }

    int store(int thread, int address, int value) {
        places(thread, address);
        running(thread);
        int before = words[address];
        words[address] = value;
        return before;
    }

    boolean compareAndSet(int thread, int address, int expected, int value) {
        places(thread, address);
        running(thread);
        boolean same = words[address] == expected;
        if (same) {
            words[address] = value;
        }
        return same;
    }

    int fetchAdd(int thread, int address, int delta) {
        places(thread, address);
        running(thread);
        int before = words[address];
        words[address] = (int) ((long) before + delta);
        return before;
    }

    boolean await(int thread, int address, int expected, int mask, int timeout) {
        places(thread, address);
        argument(mask >= 1 && mask <= 255 && timeout >= 0 && timeout <= 10000);
        running(thread);
        if (words[address] != expected) {
            return false;
        }
        masks[thread] = mask;
        begin(thread, FutexKernel.WAITING, address, timeout);
        return true;
    }

    int wake(int thread, int address, int most, int mask) {
        places(thread, address);
        argument(most >= 1 && most <= 8 && mask >= 1 && mask <= 255);
        running(thread);
        int woken = 0;
        for (int other : at(address, FutexKernel.WAITING)) {
            if (woken < most && (masks[other] & mask) != 0) {
                end(other, FutexKernel.WOKEN);
                woken++;
            }
        }
        return woken;
    }

    int requeue(int thread, int from, int expected, int wakes, int to, int moves) {
        places(thread, from);
        places(thread, to);
        argument(from != to && wakes >= 0 && wakes <= 8 && moves >= 0 && moves <= 8);
        running(thread);
        if (words[from] != expected) {
            return -1;
        }
        int done = 0;
        for (int other : at(from, FutexKernel.WAITING)) {
            if (done < wakes) {
                end(other, FutexKernel.WOKEN);
                done++;
            } else if (done < wakes + moves) {
                leave(other);
                join(other, to);
                done++;
            }
        }
        return done;
    }

    int lock(int thread, int address, int timeout) {
        places(thread, address);
        argument(timeout >= 0 && timeout <= 10000);
        running(thread);
        int word = words[address];
        int owner = word & 255;
        if (owner == 0) {
            int waiters = at(address, FutexKernel.LOCKING).isEmpty() ? 0 : BIT31;
            words[address] = thread + 1 + (word & BIT30) + waiters;
            get(thread, address);
            return (word & BIT30) != 0 ? FutexKernel.ACQUIRED_FROM_DEAD : FutexKernel.ACQUIRED;
        }
        if (owner == thread + 1) {
            return FutexKernel.DEADLOCK;
        }
        if (owner > 8 || states[owner - 1] == FutexKernel.DEAD) {
            return FutexKernel.NO_OWNER;
        }
        int looked = 0;
        while (looked < 8 && owner >= 1 && owner <= 8 && states[owner - 1] == FutexKernel.LOCKING) {
            owner = words[addresses[owner - 1]] & 255;
            looked++;
            if (owner == thread + 1) {
                return FutexKernel.DEADLOCK;
            }
        }
        words[address] |= BIT31;
        begin(thread, FutexKernel.LOCKING, address, timeout);
        return FutexKernel.MUST_WAIT;
    }

    int unlock(int thread, int address) {
        places(thread, address);
        state(states[thread] == FutexKernel.RUNNING && (words[address] & 255) == thread + 1);
        lists.get(thread).remove((Integer) address);
        passOn(address, 0, FutexKernel.HANDED);
        return (words[address] & 255) - 1;
    }

    void interrupt(int thread) {
        places(thread, 0);
        state(addresses[thread] != -1);
        end(thread, FutexKernel.INTERRUPTED);
    }

    int exit(int thread) {
        places(thread, 0);
        state(states[thread] != FutexKernel.DEAD);
        stopWaiting(thread);
        states[thread] = FutexKernel.DEAD;
        int passedOn = 0;
        for (int address : lists.get(thread)) {
            if ((words[address] & 255) == thread + 1) {
                passOn(address, BIT30, FutexKernel.OWNER_DIED);
                passedOn++;
            }
        }
        lists.get(thread).clear();
        return passedOn;
    }

    void start(int thread) {
        places(thread, 0);
        state(states[thread] == FutexKernel.DEAD);
        states[thread] = FutexKernel.RUNNING;
        priorities[thread] = 0;
        results[thread] = -1;
        serials[thread] = 0;
    }

    int setPriority(int thread, int priority) {
        places(thread, 0);
        argument(priority >= 0 && priority <= 9);
        state(states[thread] != FutexKernel.DEAD);
        int before = priorities[thread];
        if (addresses[thread] != -1 && before != priority) {
            int address = addresses[thread];
            leave(thread);
            priorities[thread] = priority;
            join(thread, address);
        }
        priorities[thread] = priority;
        return before;
    }

    int tick(int ticks) {
        argument(ticks >= 1 && ticks <= 1000);
        int timedOut = 0;
        for (int tick = 0; tick < ticks; tick++) {
            time++;
            for (int thread : new ArrayList<>(byBegin)) {
                if (left[thread] > 0) {
                    left[thread]--;
                    if (left[thread] == 0) {
                        end(thread, FutexKernel.TIMED_OUT);
                        timedOut++;
                    }
                }
            }
        }
        return timedOut;
    }

    int word(int address) {
        places(0, address);
        return words[address];
    }

    int locks(int thread) {
        places(thread, 0);
        return lists.get(thread).size();
    }

    int lockAt(int thread, int place) {
        places(thread, 0);
        return entry(lists.get(thread), place);
    }

    int blockedBy(int thread) {
        places(thread, 0);
        List<Integer> found = new ArrayList<>();
        found.add(thread);
        for (int place = 0; place < found.size(); place++) {
            for (int other = 0; other < 8; other++) {
                if (states[other] == FutexKernel.LOCKING && !found.contains(other)
                        && (words[addresses[other]] & 255) == found.get(place) + 1) {
                    found.add(other);
                }
            }
        }
        return found.size() - 1;
    }

    int now() {
        return time;
    }

    int nextTimeout() {
        int next = -1;
        for (int thread : byBegin) {
            if (left[thread] > 0 && (next == -1 || left[thread] < next)) {
                next = left[thread];
            }
        }
        return next;
    }

    int stateOf(int thread) {
        places(thread, 0);
        return states[thread];
    }

    int addressOf(int thread) {
        places(thread, 0);
        return addresses[thread];
    }

    int resultOf(int thread) {
        places(thread, 0);
        return results[thread];
    }

    int serialOf(int thread) {
        places(thread, 0);
        return serials[thread];
    }

    int waiters(int address) {
        places(0, address);
        return allAt(address).size();
    }

    int waiterAt(int address, int place) {
        places(0, address);
        return entry(allAt(address), place);
    }

    int queueAt(int bucket, int place) {
        if (bucket < 0 || bucket > 3 || place < 0) {
            throw new IndexOutOfBoundsException();
        }
        List<Integer> queue = queues.get(bucket);
        return place < queue.size() ? queue.get(place) : -1;
    }

    /** The same text as Visible.of answers of a kernel in the same state. */
    String visible() {
        StringBuilder text = new StringBuilder();
        text.append("now ").append(time).append(" next ").append(nextTimeout());
        for (int thread = 0; thread < 8; thread++) {
            text.append("; thread ").append(thread).append(" state ").append(states[thread]);
            text.append(" at ").append(addresses[thread]).append(" result ").append(results[thread]);
            text.append(" serial ").append(serials[thread]).append(" blocks ").append(blockedBy(thread));
            text.append(" locks");
            for (int address : lists.get(thread)) {
                text.append(' ').append(address);
            }
        }
        for (int address = 0; address < 16; address++) {
            text.append("; address ").append(address).append(" word ").append(words[address]).append(" waiters");
            for (int thread : allAt(address)) {
                text.append(' ').append(thread);
            }
        }
        for (int bucket = 0; bucket < 4; bucket++) {
            text.append("; bucket ").append(bucket);
            for (int place = 0; place <= 8; place++) {
                text.append(' ').append(queueAt(bucket, place));
            }
        }
        return text.toString();
    }

    private static int bucket(int address) {
        return (address + address / 4) % 4;
    }

    private List<Integer> allAt(int address) {
        List<Integer> found = new ArrayList<>();
        for (int thread : queues.get(bucket(address))) {
            if (addresses[thread] == address) {
                found.add(thread);
            }
        }
        return found;
    }

    /** Those with the state at the address, as they stand now. */
    private List<Integer> at(int address, int state) {
        List<Integer> found = allAt(address);
        found.removeIf(thread -> states[thread] != state);
        return found;
    }

    private void begin(int thread, int state, int address, int timeout) {
        states[thread] = state;
        left[thread] = timeout;
        byBegin.add(thread);
        join(thread, address);
    }

    private void join(int thread, int address) {
        List<Integer> queue = queues.get(bucket(address));
        int place = queue.size();
        while (place > 0 && priorities[queue.get(place - 1)] < priorities[thread]) {
            place--;
        }
        queue.add(place, thread);
        addresses[thread] = address;
    }

    private void leave(int thread) {
        queues.get(bucket(addresses[thread])).remove((Integer) thread);
        addresses[thread] = -1;
    }

    private void stopWaiting(int thread) {
        int address = addresses[thread];
        if (address != -1) {
            int state = states[thread];
            leave(thread);
            byBegin.remove((Integer) thread);
            states[thread] = FutexKernel.RUNNING;
            left[thread] = 0;
            if (state == FutexKernel.LOCKING && at(address, FutexKernel.LOCKING).isEmpty()) {
                words[address] &= 0x7FFFFFFF;
            }
        }
    }

    private void end(int thread, int result) {
        stopWaiting(thread);
        results[thread] = result;
        serials[thread] = ++lastSerial;
    }

    private void get(int thread, int address) {
        if (!lists.get(thread).contains(address)) {
            lists.get(thread).add(address);
        }
    }

    private void passOn(int address, int died, int result) {
        List<Integer> lockers = at(address, FutexKernel.LOCKING);
        words[address] = died;
        if (!lockers.isEmpty()) {
            int next = lockers.get(0);
            end(next, result);
            words[address] = next + 1 + died + (lockers.size() > 1 ? BIT31 : 0);
            get(next, address);
        }
    }

    private static void places(int thread, int address) {
        if (thread < 0 || thread > 7 || address < 0 || address > 15) {
            throw new IndexOutOfBoundsException();
        }
    }

    private static int entry(List<Integer> list, int place) {
        if (place < 0 || place >= list.size()) {
            throw new IndexOutOfBoundsException();
        }
        return list.get(place);
    }

    private static void argument(boolean fits) {
        if (!fits) {
            throw new IllegalArgumentException();
        }
    }

    private static void state(boolean fits) {
        if (!fits) {
            throw new IllegalStateException();
        }
    }

    private void running(int thread) {
        state(states[thread] == FutexKernel.RUNNING);
    }
}
