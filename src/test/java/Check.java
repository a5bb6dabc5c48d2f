/** Counts the answers that are not the ones that are due, and tells them. */
final class Check {
    /** A call of the class under test. */
    interface Call {
        Object answer();
    }

    private static final int MOST_TOLD = 50;

    private int looked = 0;
    private int wrong = 0;
    private String about = "";

    /** What is told ahead of each fault from now on. */
    void about(String what) {
        about = what;
    }

    int looked() {
        return looked;
    }

    void same(String what, Object got, Object want) {
        looked++;
        if (!want.equals(got)) {
            tell(about + what + " answered " + got + ", due is " + want);
        }
    }

    void yes(String what, boolean got) {
        same(what, got, true);
    }

    void no(String what, boolean got) {
        same(what, got, false);
    }

    /** The call throws just this class of exception, not one below or above it. */
    void fails(String what, Class<? extends RuntimeException> want, Call call) {
        same(what, outcome(call), "throws." + want.getSimpleName());
    }

    /** The answer of a call, or the name of the exception that it throws. */
    static Object outcome(Call call) {
        try {
            return call.answer();
        } catch (RuntimeException thrown) {
            return "throws." + thrown.getClass().getSimpleName();
        }
    }

    private void tell(String fault) {
        wrong++;
        if (wrong <= MOST_TOLD) {
            System.out.println(fault);
        }
    }

    void end(String name) {
        System.out.println(name + ": " + looked + " answers, " + wrong + " not as due");
        if (wrong != 0 || looked == 0) {
            System.exit(1);
        }
    }
}
