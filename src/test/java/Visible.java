/** All that the calls without an effect answer about a kernel, as one text. */
final class Visible {
    private Visible() {
    }

    static String of(FutexKernel kernel) {
        StringBuilder text = new StringBuilder();
        text.append("now ").append(kernel.now()).append(" next ").append(kernel.nextTimeout());
        for (int thread = 0; thread < 8; thread++) {
            addThread(text, kernel, thread);
        }
        for (int address = 0; address < 16; address++) {
            addAddress(text, kernel, address);
        }
        for (int bucket = 0; bucket < 4; bucket++) {
            text.append("; bucket ").append(bucket);
            for (int place = 0; place <= 8; place++) {
                text.append(' ').append(kernel.queueAt(bucket, place));
            }
        }
        return text.toString();
    }

    private static void addThread(StringBuilder text, FutexKernel kernel, int thread) {
        text.append("; thread ").append(thread);
        text.append(" state ").append(kernel.stateOf(thread));
        text.append(" at ").append(kernel.addressOf(thread));
        text.append(" result ").append(kernel.resultOf(thread));
        text.append(" serial ").append(kernel.serialOf(thread));
        text.append(" blocks ").append(kernel.blockedBy(thread));
        text.append(" locks");
        for (int place = 0; place < kernel.locks(thread); place++) {
            text.append(' ').append(kernel.lockAt(thread, place));
        }
    }

    private static void addAddress(StringBuilder text, FutexKernel kernel, int address) {
        text.append("; address ").append(address).append(" word ").append(kernel.word(address));
        text.append(" waiters");
        for (int place = 0; place < kernel.waiters(address); place++) {
            text.append(' ').append(kernel.waiterAt(address, place));
        }
    }
}
