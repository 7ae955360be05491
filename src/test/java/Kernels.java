/** Kernels in states that several tests begin with. */
final class Kernels {
    /** The states of the threads 0 to 7 of everyState. */
    static final int[] STATES = {FutexKernel.RUNNING, FutexKernel.WAITING, FutexKernel.LOCKING, FutexKernel.DEAD,
        FutexKernel.WAITING, FutexKernel.RUNNING, FutexKernel.LOCKING, FutexKernel.RUNNING};

    /** The address that 0 has locked, and at which 6 and 2 are LOCKING; 1 is WAITING at FULL, 4 at the last one. */
    static final int LOCKED = 11, FULL = 10, LAST = 15;

    private Kernels() {
    }

    /** Two threads or more in each state, with deadlines and without, results, priorities and a time. */
    static FutexKernel everyState() {
        FutexKernel kernel = new FutexKernel();
        kernel.setPriority(3, 2);
        kernel.exit(3);
        kernel.setPriority(0, 2);
        kernel.lock(0, LOCKED, 0);
        kernel.lock(0, 4, 0);
        kernel.await(5, 9, 0, 1, 0);
        kernel.interrupt(5);
        kernel.tick(3);
        kernel.setPriority(1, 3);
        kernel.await(1, FULL, 0, 6, 40);
        kernel.lock(2, LOCKED, 40);
        kernel.setPriority(6, 9);
        kernel.lock(6, LOCKED, 0);
        kernel.await(4, LAST, 0, 128, 7);
        kernel.store(7, 12, 4);
        return kernel;
    }

    /** 1 is WAITING at the address 0, 2 LOCKING at 1, the lock of 0; 3 is DEAD, and all others are RUNNING. */
    static FutexKernel oneOfEach() {
        FutexKernel kernel = new FutexKernel();
        kernel.await(1, 0, 0, 255, 0);
        kernel.lock(0, 1, 0);
        kernel.lock(2, 1, 0);
        kernel.exit(3);
        return kernel;
    }

    /** All eight threads WAITING at the address 5, 7 first and 0 last, but 4, with the priority 9, before them. */
    static FutexKernel allWaiting() {
        FutexKernel kernel = new FutexKernel();
        kernel.setPriority(4, 9);
        for (int thread = 7; thread >= 0; thread--) {
            kernel.await(thread, 5, 0, 255, 0);
        }
        return kernel;
    }

    /** The thread 0 has all sixteen locks, 15 first and 0 last. */
    static FutexKernel allLocked() {
        FutexKernel kernel = new FutexKernel();
        for (int address = 15; address >= 0; address--) {
            kernel.lock(0, address, 0);
        }
        return kernel;
    }

    /** Each thread has the lock of its own number and, but for 7, is LOCKING at that of the next one. */
    static FutexKernel longestChain() {
        FutexKernel kernel = new FutexKernel();
        for (int thread = 0; thread < 8; thread++) {
            kernel.lock(thread, thread, 0);
        }
        for (int thread = 0; thread < 7; thread++) {
            kernel.lock(thread, thread + 1, 0);
        }
        return kernel;
    }
}
