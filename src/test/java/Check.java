/** Counts the answers that are not as due, and prints each of them. */
final class Check {
    private int wrong = 0;
    private int right = 0;

    interface Call {
        void make();
    }

    void due(String what, long got, long want) {
        report(got == want, what, String.valueOf(got), String.valueOf(want));
    }

    void due(String what, boolean got, boolean want) {
        report(got == want, what, String.valueOf(got), String.valueOf(want));
    }

    void due(String what, String got, String want) {
        report(got.equals(want), what, got, want);
    }

    /** The call throws exactly this exception (no subclass of it), and nothing of the kernel changes. */
    void refused(String what, FutexKernel kernel, Class<?> exception, Call call) {
        String before = Visible.of(kernel);
        due(what, thrownBy(call), exception.getName());
        due(what + " changes nothing", Visible.of(kernel), before);
    }

    void noPlace(String what, FutexKernel kernel, Call call) {
        refused(what, kernel, IndexOutOfBoundsException.class, call);
    }

    void noArgument(String what, FutexKernel kernel, Call call) {
        refused(what, kernel, IllegalArgumentException.class, call);
    }

    void noState(String what, FutexKernel kernel, Call call) {
        refused(what, kernel, IllegalStateException.class, call);
    }

    /** The name of what the call throws; "nothing" if it throws nothing. */
    static String thrownBy(Call call) {
        try {
            call.make();
            return "nothing";
        } catch (RuntimeException e) {
            return e.getClass().getName();
        }
    }

    void end(String name) {
        System.out.println(name + ": " + right + " answers as due, " + wrong + " not as due");
        if (wrong != 0) {
            System.exit(1);
        }
    }

    private void report(boolean fits, String what, String got, String want) {
        if (fits) {
            right++;
        } else {
            wrong++;
            System.out.println(what + " answered " + got + ", due is " + want);
        }
    }
}
