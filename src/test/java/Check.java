/** Counts the answers that are not as due; a test ends by end(). */
final class Check {
    static final int LEAST = Integer.MIN_VALUE;
    static final int GREATEST = Integer.MAX_VALUE;

    /** A call of which only the exception matters. */
    interface Call {
        void make();
    }

    private static int wrong = 0;

    private Check() {
    }

    static void due(String call, long got, long want) {
        if (got != want) {
            wrong++;
            System.out.println(call + " answered " + got + ", due is " + want);
        }
    }

    static void due(String call, boolean got, boolean want) {
        due(call, got ? 1 : 0, want ? 1 : 0);
    }

    static void wrongArgument(String call, Call made) {
        throwing(call, IllegalArgumentException.class, made);
    }

    static void wrongState(String call, Call made) {
        throwing(call, IllegalStateException.class, made);
    }

    static void wrongIndex(String call, Call made) {
        throwing(call, IndexOutOfBoundsException.class, made);
    }

    /** Exactly this class: one below it would be the machine's own. */
    private static void throwing(String call, Class<?> want, Call made) {
        String got = "nothing";
        try {
            made.make();
        } catch (RuntimeException e) {
            got = e.getClass().getName();
        }
        if (!got.equals(want.getName())) {
            wrong++;
            System.out.println(call + " threw " + got + ", due is " + want.getName());
        }
    }

    /** Tells a rule by its elements. */
    static int rule(TreeMatcher x, int gives, int cost, int... elements) {
        return limited(x, gives, cost, LEAST, GREATEST, elements);
    }

    static int limited(TreeMatcher x, int gives, int cost, int low, int high, int... elements) {
        for (int e : elements) {
            x.element(e);
        }
        return x.rule(gives, cost, low, high);
    }

    static void end() {
        System.out.println(wrong == 0 ? "all answers are as due" : wrong + " answers are not as due");
        if (wrong != 0) {
            System.exit(1);
        }
    }
}
