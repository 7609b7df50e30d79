import java.util.function.LongSupplier;

/** Takes answers and the ones that are due, and tells which differ. */
final class Due {
    private final String test;
    private int asked;
    private int wrong;

    Due(String test) {
        this.test = test;
    }

    void is(String what, long got, long want) {
        asked++;
        if (got != want) {
            wrong++;
            System.out.println(test + ": " + what + " answered " + got + ", due is " + want);
        }
    }

    void is(String what, boolean got, boolean want) {
        is(what, got ? 1 : 0, want ? 1 : 0);
    }

    void is(String what, String got, String want) {
        asked++;
        if (!got.equals(want)) {
            wrong++;
            System.out.println(test + ": " + what + " answered " + got + ", due is " + want);
        }
    }

    void throwsBounds(String what, Runnable call) {
        is(what, thrownBy(call), "IndexOutOfBoundsException");
    }

    void throwsArgument(String what, Runnable call) {
        is(what, thrownBy(call), "IllegalArgumentException");
    }

    void throwsState(String what, Runnable call) {
        is(what, thrownBy(call), "IllegalStateException");
    }

    /** The exception's own name; one that the machine or the library threw bears a mark, as it is never due. */
    static String thrownBy(Runnable call) {
        try {
            call.run();
            return "nothing";
        } catch (RuntimeException e) {
            StackTraceElement[] trace = e.getStackTrace();
            boolean isOwn = trace.length > 0 && trace[0].getClassName().startsWith("PermitWeave");
            return (isOwn ? "" : "the machine's ") + e.getClass().getSimpleName();
        }
    }

    /** What a call answers, or the exception that it throws, as a text. */
    static String answer(LongSupplier call) {
        long[] got = new long[1];
        String thrown = thrownBy(() -> got[0] = call.getAsLong());
        return thrown.equals("nothing") ? String.valueOf(got[0]) : thrown;
    }

    int wrong() {
        return wrong;
    }

    void end() {
        System.out.println(test + ": " + asked + " answers, " + wrong + " not as due");
        if (wrong > 0 || asked == 0) {
            System.exit(1);
        }
    }
}
