/** All that the calls answer about a kernel, as one text. A kernel is asked for no more than 512 calls in all. */
final class Visible {
    private Visible() {
    }

    /** What the calls without an effect answer: at most 254 calls. */
    static String of(FutexKernel kernel) {
        StringBuilder text = new StringBuilder();
        text.append("now ").append(kernel.now()).append(" next ").append(kernel.nextTimeout());
        for (int thread = 0; thread < 8; thread++) {
            addThread(text, kernel, thread);
        }
        for (int address = 0; address < 16; address++) {
            addAddress(text, kernel, address);
        }
        for (int bucket = 0; bucket < 4; bucket++) {
            text.append("; bucket ").append(bucket);
            for (int place = 0; place <= 8; place++) {
                text.append(' ').append(kernel.queueAt(bucket, place));
            }
        }
        return text.toString();
    }

    /** With what only later calls show, each on a kernel of its own: priorities, masks, deadlines and their order. */
    static String nowAndLater(Check.SetUp setUp) {
        return of(setUp.make()) + priorities(setUp.make()) + masks(setUp.make()) + deadlines(setUp.make())
                + laterOrder(setUp.make());
    }

    private static String priorities(FutexKernel kernel) {
        StringBuilder text = new StringBuilder("; priorities");
        for (int thread = 0; thread < 8; thread++) {
            boolean dead = kernel.stateOf(thread) == FutexKernel.DEAD;
            text.append(' ').append(dead ? "dead" : String.valueOf(kernel.setPriority(thread, 0)));
        }
        return text.toString();
    }

    /** Which of the bits, tried one after the other, wakes how many at each address. */
    private static String masks(FutexKernel kernel) {
        StringBuilder text = new StringBuilder("; masks");
        int caller = firstRunning(kernel);
        for (int address = 0; address < 16; address++) {
            boolean somebody = caller != FutexKernel.NONE && kernel.waiters(address) > 0;
            for (int bit = 0; somebody && bit < 8; bit++) {
                text.append(' ').append(kernel.wake(caller, address, 8, 1 << bit));
            }
        }
        return text.toString();
    }

    /** When the waits time out, and in which order. */
    private static String deadlines(FutexKernel kernel) {
        StringBuilder text = new StringBuilder("; deadlines");
        for (int round = 0; round < 8 && kernel.nextTimeout() != FutexKernel.NONE; round++) {
            text.append(' ').append(kernel.nextTimeout());
            for (int left = kernel.nextTimeout(); left > 0; left -= 1000) {
                kernel.tick(Math.min(left, 1000));
            }
        }
        for (int thread = 0; thread < 8; thread++) {
            text.append(' ').append(kernel.serialOf(thread));
        }
        for (int address = 0; address < 16; address++) {
            text.append(' ').append(kernel.word(address));
        }
        return text.toString();
    }

    /** What comes after all priorities are made the same, one by one. */
    private static String laterOrder(FutexKernel kernel) {
        priorities(kernel);
        StringBuilder text = new StringBuilder("; later");
        for (int bucket = 0; bucket < 4; bucket++) {
            for (int place = 0; place <= 8; place++) {
                text.append(' ').append(kernel.queueAt(bucket, place));
            }
        }
        return text.toString();
    }

    private static int firstRunning(FutexKernel kernel) {
        for (int thread = 0; thread < 8; thread++) {
            if (kernel.stateOf(thread) == FutexKernel.RUNNING) {
                return thread;
            }
        }
        return FutexKernel.NONE;
    }

    private static void addThread(StringBuilder text, FutexKernel kernel, int thread) {
        text.append("; thread ").append(thread);
        text.append(" state ").append(kernel.stateOf(thread));
        text.append(" at ").append(kernel.addressOf(thread));
        text.append(" result ").append(kernel.resultOf(thread));
        text.append(" serial ").append(kernel.serialOf(thread));
        text.append(" blocks ").append(kernel.blockedBy(thread));
        text.append(" locks");
        int locks = kernel.locks(thread);
        for (int place = 0; place < locks; place++) {
            text.append(' ').append(kernel.lockAt(thread, place));
        }
    }

    private static void addAddress(StringBuilder text, FutexKernel kernel, int address) {
        text.append("; address ").append(address).append(" word ").append(kernel.word(address));
        text.append(" waiters");
        int waiters = kernel.waiters(address);
        for (int place = 0; place < waiters; place++) {
            text.append(' ').append(kernel.waiterAt(address, place));
        }
    }
}
