import java.util.NoSuchElementException;

/** Counts the answers that are not as due and tells each, with the document's sentence that it breaks. */
final class Check {
    static final Class<IndexOutOfBoundsException> INDEX = IndexOutOfBoundsException.class;
    static final Class<IllegalArgumentException> ARGUMENT = IllegalArgumentException.class;
    static final Class<IllegalStateException> STATE = IllegalStateException.class;
    static final Class<NoSuchElementException> ELEMENT = NoSuchElementException.class;

    static final int LEAST = -1000000000;
    static final int GREATEST = 1000000000;
    static final int MIN = Integer.MIN_VALUE;
    static final int MAX = Integer.MAX_VALUE;

    interface Call {
        void make();
    }

    interface CallWith {
        void make(int argument);
    }

    private static int asked = 0;
    private static int wrong = 0;
    private static String sentence = "";
    private static String told = "";
    private static int toldOfIt = 0;

    private Check() {
    }

    /** The answers that follow are about this sentence of the document. */
    static void sentence(String where, String text) {
        sentence = where + ": " + text;
    }

    static void equal(String what, long got, long due) {
        asked++;
        if (got != due) {
            tell(what + " answered " + got + ", due is " + due);
        }
    }

    static void yes(String what, boolean got) {
        equal(what, got ? 1 : 0, 1);
    }

    static void no(String what, boolean got) {
        equal(what, got ? 1 : 0, 0);
    }

    /** The range of a variable in the entry state of a block. */
    static void entry(String what, RangePropagator p, int block, int variable, int low, int high) {
        equal(what + ": low at the entry", p.entry(block, variable, false), low);
        equal(what + ": high at the entry", p.entry(block, variable, true), high);
    }

    /** The range of a variable behind the statements of a block. */
    static void exit(String what, RangePropagator p, int block, int variable, int low, int high) {
        equal(what + ": low behind the statements", p.exit(block, variable, false), low);
        equal(what + ": high behind the statements", p.exit(block, variable, true), high);
    }

    /** The call must throw exactly this exception and change nothing that can be seen. */
    static void refused(String what, RangePropagator on, Class<? extends RuntimeException> due, Call call) {
        long digest = on.digest();
        boolean analyzed = on.isAnalyzed();
        asked++;
        Class<?> got = thrownBy(call);
        if (got != due) {
            tell(what + " threw " + (got == null ? "nothing" : got.getName()) + ", due is " + due.getName());
        }
        equal(what + ": digest after the exception", on.digest(), digest);
        yes(what + ": the analysis after the exception", on.isAnalyzed() == analyzed);
    }

    /** As above, for the call with each of these arguments. */
    static void refusedFor(String what, RangePropagator on, Class<? extends RuntimeException> due, CallWith call,
            int... arguments) {
        for (int argument : arguments) {
            refused(what + " " + argument, on, due, () -> call.make(argument));
        }
    }

    /** The exception's class, or null. */
    static Class<?> thrownBy(Call call) {
        try {
            call.make();
        } catch (RuntimeException e) {
            return e.getClass();
        }
        return null;
    }

    /** Tells the first few of each sentence. */
    static void tell(String text) {
        wrong++;
        if (!sentence.equals(told)) {
            System.out.println("  " + sentence);
            told = sentence;
            toldOfIt = 0;
        }
        toldOfIt++;
        if (toldOfIt <= 8) {
            System.out.println("    " + text);
        }
    }

    /** Makes all of these tests; one that throws does not keep the others from being made. */
    static void all(String name, Call... tests) {
        for (Call test : tests) {
            try {
                test.make();
            } catch (RuntimeException e) {
                tell("the test was ended by " + e + " at " + e.getStackTrace()[0]);
            }
        }
        end(name);
    }

    static void end(String test) {
        System.out.println(test + ": " + asked + " answers, " + wrong + " not as due");
        if (wrong != 0) {
            System.exit(1);
        }
    }
}
