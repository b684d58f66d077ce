/** Counts the answers that are not as due and tells each. */
final class Check {
    interface Call {
        void make();
    }

    private static int asked = 0;
    private static int wrong = 0;

    private Check() {
    }

    static void equal(String what, long got, long due) {
        asked++;
        if (got != due) {
            tell(what + " answered " + got + ", due is " + due);
        }
    }

    static void yes(String what, boolean got) {
        equal(what, got ? 1 : 0, 1);
    }

    static void no(String what, boolean got) {
        equal(what, got ? 1 : 0, 0);
    }

    /** The call must throw exactly this exception and change nothing that can be seen. */
    static void refused(String what, RangePropagator on, Class<? extends RuntimeException> due, Call call) {
        long digest = on.digest();
        boolean analyzed = on.isAnalyzed();
        asked++;
        Class<?> got = thrownBy(call);
        if (got != due) {
            tell(what + " threw " + (got == null ? "nothing" : got.getName()) + ", due is " + due.getName());
        }
        equal(what + ": digest after the exception", on.digest(), digest);
        yes(what + ": the analysis after the exception", on.isAnalyzed() == analyzed);
    }

    /** The exception's class, or null. */
    static Class<?> thrownBy(Call call) {
        try {
            call.make();
        } catch (RuntimeException e) {
            return e.getClass();
        }
        return null;
    }

    static void tell(String text) {
        wrong++;
        if (wrong <= 40) {
            System.out.println("  " + text);
        }
    }

    static void end(String test) {
        System.out.println(test + ": " + asked + " answers, " + wrong + " not as due");
        if (wrong != 0) {
            System.exit(1);
        }
    }
}
