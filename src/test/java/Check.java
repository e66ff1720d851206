/** Counts what a test checks, prints what is not as due, and ends the test with exit code 1 then. */
final class Check {
    /** A call on the program that answers a number. */
    interface Call {
        long answer();
    }

    private final String test;
    private int checks;
    private int wrong;

    Check(String test) {
        this.test = test;
    }

    void due(String what, long want, long got) {
        checks++;
        if (got != want) {
            tell(what + ": answered " + got + ", due is " + want);
        }
    }

    void due(String what, boolean want, boolean got) {
        due(what, want ? 1 : 0, got ? 1 : 0);
    }

    void all(String what, long[] want, long[] got) {
        checks++;
        if (!java.util.Arrays.equals(want, got)) {
            tell(what + ": answered " + java.util.Arrays.toString(got)
                + ", due is " + java.util.Arrays.toString(want));
        }
    }

    void badArgument(String what, Call call) {
        thrown(what, IllegalArgumentException.class, call);
    }

    void badState(String what, Call call) {
        thrown(what, IllegalStateException.class, call);
    }

    private void thrown(String what, Class<? extends RuntimeException> want, Call call) {
        checks++;
        try {
            tell(what + ": answered " + call.answer() + ", due is " + want.getSimpleName());
        } catch (RuntimeException e) {
            if (e.getClass() != want) {
                tell(what + ": threw " + e + ", due is " + want.getSimpleName());
            }
        }
    }

    private void tell(String fault) {
        wrong++;
        if (wrong <= 50) {
            System.out.println(test + ": " + fault);
        }
    }

    void end() {
        System.out.println(test + ": " + checks + " checks, " + wrong + " wrong");
        if (wrong != 0 || checks == 0) {
            System.exit(1);
        }
    }
}
