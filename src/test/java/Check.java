/** Counts the answers that are not due, and prints each. */
final class Check {

    /** A call that answers, or has to throw. */
    interface Call {
        Object answer();
    }

    /** A call on an object that is made for it. */
    interface Act {
        Object on(ThinSheets x);
    }

    /** A call with an argument that is looked at. */
    interface ActOf {
        Object on(ThinSheets x, int value);
    }

    private static int wrong = 0;

    private Check() {
    }

    static void due(String what, long want, long got) {
        if (got != want) {
            report(what + " answered " + got + ", due is " + want);
        }
    }

    static void due(String what, boolean want, boolean got) {
        due(what, want ? 1 : 0, got ? 1 : 0);
    }

    /** The class has to be the very one: what the machine throws is of a class below it. */
    static void refused(String what, Class<? extends RuntimeException> want, Call call) {
        String got = outcome(call);
        if (!got.equals(want.getSimpleName())) {
            report(what + " answered " + got + ", due is " + want.getSimpleName());
        }
    }

    static void noIndex(String what, Call call) {
        refused(what, IndexOutOfBoundsException.class, call);
    }

    static void noArgument(String what, Call call) {
        refused(what, IllegalArgumentException.class, call);
    }

    static void noState(String what, Call call) {
        refused(what, IllegalStateException.class, call);
    }

    /** Just outside of a range, far outside, and as far as there are ints, on both sides. */
    static int[] beside(int least, int greatest) {
        return new int[] {least - 1, greatest + 1, least - 1000, greatest + 1000,
            Integer.MIN_VALUE, Integer.MAX_VALUE};
    }

    /** The answer, or the name of what was thrown. */
    static String outcome(Call call) {
        try {
            return String.valueOf(call.answer());
        } catch (RuntimeException thrown) {
            return thrown.getClass().getSimpleName();
        }
    }

    static void report(String fault) {
        wrong++;
        if (wrong <= 100) {
            System.out.println(fault);
        }
    }

    /** Ends the test: with exit code 1 if an answer was wrong. */
    static void end() {
        if (wrong > 0) {
            System.out.println(wrong + " wrong");
            System.exit(1);
        }
    }
}
