/** Counts the answers that are not as due; a test ends by end(). */
final class Check {
    static final int LEAST = Integer.MIN_VALUE;
    static final int GREATEST = Integer.MAX_VALUE;

    /** A call of which only the exception matters. */
    interface Call {
        void make();
    }

    private static int wrong = 0;
    private static int checks = 0;
    private static String place = "";

    private Check() {
    }

    /** A sentence of the document with the test of its own; one that looks at nothing is wrong too. */
    static void sentence(String words, Call test) {
        int before = checks;
        place = "[" + words + "] ";
        try {
            test.make();
        } catch (RuntimeException e) {
            tell("the test ended with " + e);
        }
        if (checks == before) {
            tell("the test looks at nothing");
        }
        place = "";
    }

    static void due(String call, long got, long want) {
        due(call, Long.toString(got), Long.toString(want));
    }

    static void due(String call, boolean got, boolean want) {
        due(call, got ? "true" : "false", want ? "true" : "false");
    }

    static void due(String call, String got, String want) {
        checks++;
        if (!got.equals(want)) {
            tell(call + " answered " + got + ", due is " + want);
        }
    }

    static void wrongArgument(String call, Call made) {
        throwing(call, IllegalArgumentException.class, made);
    }

    static void wrongState(String call, Call made) {
        throwing(call, IllegalStateException.class, made);
    }

    static void wrongIndex(String call, Call made) {
        throwing(call, IndexOutOfBoundsException.class, made);
    }

    /** Exactly this class: one below it would be the machine's own. */
    static void throwing(String call, Class<?> want, Call made) {
        String got = "nothing";
        try {
            made.make();
        } catch (RuntimeException e) {
            got = e.getClass().getName();
        }
        checks++;
        if (!got.equals(want.getName())) {
            tell(call + " threw " + got + ", due is " + want.getName());
        }
    }

    private static void tell(String fault) {
        wrong++;
        System.out.println(place + fault);
    }

    /** Tells a rule by its elements. */
    static int rule(TreeMatcher x, int gives, int cost, int... elements) {
        return limited(x, gives, cost, LEAST, GREATEST, elements);
    }

    static int limited(TreeMatcher x, int gives, int cost, int low, int high, int... elements) {
        tellElements(x, elements);
        return x.rule(gives, cost, low, high);
    }

    static void tellElements(TreeMatcher x, int... elements) {
        for (int e : elements) {
            x.element(e);
        }
    }

    /** Operator 0 has no kids, 1 one and 2 two. */
    static TreeMatcher withOperators() {
        TreeMatcher x = new TreeMatcher();
        x.operator(0, 0);
        x.operator(1, 1);
        x.operator(2, 2);
        return x;
    }

    static int leaf(TreeMatcher x, int value) {
        return x.node(0, value, TreeMatcher.NONE, TreeMatcher.NONE);
    }

    static int above(TreeMatcher x, int value, int kid) {
        return x.node(1, value, kid, TreeMatcher.NONE);
    }

    static void end() {
        System.out.println(wrong == 0 ? "all answers are as due" : wrong + " answers are not as due");
        if (wrong != 0) {
            System.exit(1);
        }
    }
}
