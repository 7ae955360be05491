/** Counts the answers that are not as due, and prints each of them. */
final class Check {
    private int wrong = 0;
    private int right = 0;
    private String sentence = "";

    /** Makes a kernel, in the same state each time. */
    interface SetUp {
        FutexKernel make();
    }

    interface Call {
        void on(FutexKernel kernel);
    }

    /** Which sentence of the document the answers from here on are about. */
    void sentence(String promise, String words) {
        sentence = promise + " \"" + words + "\": ";
    }

    void due(String what, long got, long want) {
        report(got == want, what, String.valueOf(got), String.valueOf(want));
    }

    void due(String what, boolean got, boolean want) {
        report(got == want, what, String.valueOf(got), String.valueOf(want));
    }

    void due(String what, String got, String want) {
        report(got.equals(want), what, got, want);
    }

    /** The call throws exactly this exception (no subclass of it), and nothing of the kernel changes. */
    void refused(String what, SetUp setUp, Class<?> exception, Call call) {
        due(what, thrownBy(call, setUp.make()), exception.getName());
        unchanged(what, setUp, call);
    }

    void noPlace(String what, SetUp setUp, Call call) {
        refused(what, setUp, IndexOutOfBoundsException.class, call);
    }

    void noArgument(String what, SetUp setUp, Call call) {
        refused(what, setUp, IllegalArgumentException.class, call);
    }

    void noState(String what, SetUp setUp, Call call) {
        refused(what, setUp, IllegalStateException.class, call);
    }

    /** The call, whether it throws or not, changes nothing that can be seen then or later. */
    void unchanged(String what, SetUp setUp, Call call) {
        unchanged(what, setUp, call, Visible.nowAndLater(setUp));
    }

    /** The same, where what can be seen of the set-up is known already. */
    void unchanged(String what, SetUp setUp, Call call, String want) {
        due(what + " changes nothing", Visible.nowAndLater(() -> after(setUp, call)), want);
    }

    /** The name of what the call throws; "nothing" if it throws nothing. */
    static String thrownBy(Call call, FutexKernel kernel) {
        try {
            call.on(kernel);
            return "nothing";
        } catch (RuntimeException e) {
            return e.getClass().getName();
        }
    }

    void end(String name) {
        System.out.println(name + ": " + right + " answers as due, " + wrong + " not as due");
        if (wrong != 0) {
            System.exit(1);
        }
    }

    private static FutexKernel after(SetUp setUp, Call call) {
        FutexKernel kernel = setUp.make();
        thrownBy(call, kernel);
        return kernel;
    }

    private void report(boolean fits, String what, String got, String want) {
        if (fits) {
            right++;
        } else {
            wrong++;
            System.out.println(sentence + what + " answered " + got + ", due is " + want);
        }
    }
}
