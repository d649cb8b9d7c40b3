import java.util.function.Supplier;

/** 'Of several exceptions the first one told is thrown; a call that throws changes nothing.' */
public final class RefusalsTest {
    private static final int N = TreeMatcher.NONE;
    private static final int LEAST = Check.LEAST;
    private static final int GREATEST = Check.GREATEST;
    private static final Class<?> ARGUMENT = IllegalArgumentException.class;
    private static final Class<?> STATE = IllegalStateException.class;
    private static final Class<?> INDEX = IndexOutOfBoundsException.class;

    /** What is done with an object. */
    private interface Act {
        void on(TreeMatcher x);
    }

    public static void main(String[] args) {
        Check.sentence("the first one told is thrown: operator", RefusalsTest::firstOfOperator);
        Check.sentence("the first one told is thrown: element", RefusalsTest::firstOfElement);
        Check.sentence("the first one told is thrown: rule", RefusalsTest::firstOfRule);
        Check.sentence("the first one told is thrown: node", RefusalsTest::firstOfNode);
        Check.sentence("the first one told is thrown: cover", RefusalsTest::firstOfCover);
        Check.sentence("a call that throws changes nothing: operator", RefusalsTest::operator);
        Check.sentence("a call that throws changes nothing: element", RefusalsTest::element);
        Check.sentence("a call that throws changes nothing: rule, IllegalStateException", RefusalsTest::ruleRefused);
        Check.sentence("a call that throws changes nothing: rule, but the pattern at hand", RefusalsTest::ruleWrong);
        Check.sentence("a call that throws changes nothing: node", RefusalsTest::node);
        Check.sentence("a call that throws changes nothing: cost, ruleAt, pair, same, count", RefusalsTest::questions);
        Check.sentence("a call that throws changes nothing: cover", RefusalsTest::cover);
        Check.sentence("a call that throws changes nothing: states", RefusalsTest::states);
        Check.end();
    }

    /** Three operators, four rules, no nodes. */
    private static void grammar(TreeMatcher x) {
        x.operator(0, 0);
        x.operator(1, 1);
        x.operator(2, 2);
        Check.rule(x, 0, 1, 0);
        Check.rule(x, 1, 2, 32);
        Check.rule(x, 2, 3, 1, 33);
        Check.rule(x, 3, 0, 2, 32, 34);
    }

    /** With five nodes, of which 3 and 4 are no kids, a cover, and half a pattern at hand. */
    private static void grown(TreeMatcher x) {
        grammar(x);
        Check.leaf(x, 0);
        Check.leaf(x, 0);
        Check.above(x, 0, 0);
        Check.leaf(x, 0);
        x.node(2, 0, 1, 2);
        x.cover(4, 3);
        x.element(1);
    }

    private static void withFullHand(TreeMatcher x) {
        grammar(x);
        Check.tellElements(x, 1, 1, 1, 1, 1, 1, 1, 1, 1, 1, 1, 32);
    }

    private static void withAllRules(TreeMatcher x) {
        grammar(x);
        for (int k = 4; k < 64; k++) {
            Check.rule(x, k % 16, k, 0);
        }
        x.element(0);
    }

    private static void withAllNodes(TreeMatcher x) {
        grown(x);
        for (int k = 5; k < 200; k++) {
            Check.leaf(x, 0);
        }
    }

    private static void withLimits(TreeMatcher x) {
        grammar(x);
        Check.limited(x, 5, 1, 0, 0, 0);
    }

    /** 1 costs more than 0 by ever more, the higher the tree is. */
    private static void withoutEnd(TreeMatcher x) {
        x.operator(0, 0);
        x.operator(1, 1);
        Check.rule(x, 0, 0, 0);
        Check.rule(x, 1, 0, 0);
        Check.rule(x, 0, 0, 1, 32);
        Check.rule(x, 1, 1, 1, 33);
    }

    /** 16 pairs for each of 126 nodes above one another; the cover is that of the first one. */
    private static void withLongCovers(TreeMatcher x) {
        x.operator(0, 0);
        x.operator(1, 1);
        Check.rule(x, 0, 0, 0);
        Check.rule(x, 0, 0, 1, 47);
        for (int n = 0; n < 15; n++) {
            Check.rule(x, n + 1, 1, 32 + n);
        }
        int top = Check.leaf(x, 0);
        for (int k = 1; k < 126; k++) {
            top = Check.above(x, 0, top);
        }
        x.cover(0, 3);
    }

    private static String answer(Supplier<Object> call) {
        try {
            return String.valueOf(call.get());
        } catch (RuntimeException e) {
            return e.getClass().getSimpleName();
        }
    }

    /** All that an object answers, and what it goes on to do with all that it holds. */
    private static String story(TreeMatcher x) {
        StringBuilder told = new StringBuilder();
        ask(x, told);
        tell(told, answer(() -> x.node(1, 7, 3, N)));
        tell(told, answer(() -> x.node(2, 7, 4, 5)));
        tell(told, answer(() -> x.node(0, 7, N, N)));
        if (x.count(3) < 12) {
            tell(told, answer(() -> x.element(32)));
        }
        tell(told, answer(() -> x.operator(9, 0)));
        tell(told, answer(() -> x.operator(30, 0)));
        tell(told, answer(x::clear));
        tell(told, answer(() -> x.rule(4, 5, LEAST, GREATEST)));
        tell(told, answer(x::states));
        tell(told, answer(() -> x.node(0, 0, N, N)));
        tell(told, answer(() -> x.node(1, 0, 0, N)));
        ask(x, told);
        return told.toString();
    }

    private static void ask(TreeMatcher x, StringBuilder told) {
        for (int k = 0; k < 6; k++) {
            int what = k;
            tell(told, answer(() -> x.count(what)));
        }
        tell(told, answer(x::states));
        for (int k = 0; k < 6; k++) {
            int one = k;
            tell(told, answer(() -> x.pair(one, 0)));
            tell(told, answer(() -> x.pair(one, 1)));
            tell(told, answer(() -> x.same(one, 0)));
            for (int n = 0; n < 5; n++) {
                int nonterminal = n;
                tell(told, answer(() -> x.cost(one, nonterminal)));
                tell(told, answer(() -> x.ruleAt(one, nonterminal)));
            }
        }
    }

    private static void tell(StringBuilder told, String answer) {
        told.append(answer).append(' ');
    }

    /** The call throws what is due, and the object goes on as one that has not been called so. */
    private static void refused(String name, Class<?> due, Act before, Act call) {
        refused(name, due, before, before, call);
    }

    /** Likewise, but it goes on as one with which something else has been done before. */
    private static void refused(String name, Class<?> due, Act before, Act beforeTwin, Act call) {
        TreeMatcher x = new TreeMatcher();
        TreeMatcher twin = new TreeMatcher();
        before.on(x);
        beforeTwin.on(twin);
        Check.throwing(name, due, () -> call.on(x));
        Check.due(name + ": what is answered then", story(x), story(twin));
    }

    private static void firstOfOperator() {
        TreeMatcher x = new TreeMatcher();
        grown(x);
        Check.throwing("wrong kids of one that is there", ARGUMENT, () -> x.operator(0, 3));
        Check.throwing("wrong kids of one that is there", ARGUMENT, () -> x.operator(2, -1));
        Check.throwing("one that is there", STATE, () -> x.operator(2, 2));
    }

    private static void firstOfElement() {
        TreeMatcher x = new TreeMatcher();
        withFullHand(x);
        Check.throwing("a wrong one, too many", ARGUMENT, () -> x.element(48));
        Check.throwing("a wrong one, too many", ARGUMENT, () -> x.element(-1));
        Check.throwing("too many", STATE, () -> x.element(47));
    }

    private static void firstOfRule() {
        for (Act before : new Act[] {RefusalsTest::grown, RefusalsTest::withAllRules}) {
            TreeMatcher x = new TreeMatcher();
            before.on(x);
            int hand = x.count(3);
            Check.throwing("no room, and gives is wrong", STATE, () -> x.rule(16, 0, 0, 0));
            Check.throwing("no room, and the cost is wrong", STATE, () -> x.rule(0, 100, 0, 0));
            Check.throwing("no room, and low is above high", STATE, () -> x.rule(0, 0, 1, 0));
            x.element(0);
            x.element(0);
            Check.throwing("no room, and no pattern", STATE, () -> x.rule(0, 0, 0, 0));
            Check.throwing("no room, and all is wrong", STATE, () -> x.rule(-1, -1, 1, 0));
            Check.due("the pattern at hand", x.count(3), hand + 2);
        }
    }

    private static void firstOfNode() {
        TreeMatcher x = new TreeMatcher();
        withAllNodes(x);
        Check.throwing("too many, of no operator", ARGUMENT, () -> x.node(3, 0, N, N));
        Check.throwing("too many, of no operator", ARGUMENT, () -> x.node(-1, 0, N, N));
        Check.throwing("too many, with its own number as a kid", ARGUMENT, () -> x.node(1, 0, 200, N));
        Check.throwing("too many, with a kid of another one", ARGUMENT, () -> x.node(1, 0, 0, N));
        Check.throwing("too many, with a kid twice", ARGUMENT, () -> x.node(2, 0, 4, 4));
        Check.throwing("too many, with a kid of a leaf", ARGUMENT, () -> x.node(0, 0, 4, N));
        Check.throwing("too many, without a kid", ARGUMENT, () -> x.node(1, 0, N, N));
        Check.throwing("too many", STATE, () -> x.node(2, 0, 3, 4));
    }

    private static void firstOfCover() {
        TreeMatcher x = new TreeMatcher();
        grown(x);
        Check.throwing("no such nonterminal, so without a cost", INDEX, () -> x.cover(0, 16));
        Check.throwing("no such nonterminal, so without a cost", INDEX, () -> x.cover(0, -1));
        Check.throwing("no such node, so without a cost", INDEX, () -> x.cover(5, 0));
        Check.throwing("without a cost", STATE, () -> x.cover(0, 15));
        TreeMatcher y = new TreeMatcher();
        withLongCovers(y);
        Check.throwing("no such nonterminal, where covers are too long", INDEX, () -> y.cover(125, 16));
        Check.throwing("too long", STATE, () -> y.cover(125, 15));
    }

    private static void operator() {
        int[][] wrong = {{-1, 0}, {32, 0}, {LEAST, 0}, {GREATEST, 0}, {9, -1}, {9, 3}, {30, LEAST}, {30, GREATEST},
            {0, 3}};
        int[][] again = {{0, 0}, {0, 1}, {0, 2}, {1, 0}, {1, 2}, {2, 0}, {2, 1}};
        for (int[] w : wrong) {
            refused("operator(" + w[0] + ", " + w[1] + ")", ARGUMENT, RefusalsTest::grown,
                    x -> x.operator(w[0], w[1]));
        }
        for (int[] w : again) {
            refused("operator(" + w[0] + ", " + w[1] + ")", STATE, RefusalsTest::grown, x -> x.operator(w[0], w[1]));
        }
    }

    private static void element() {
        for (int e : new int[] {-1, 48, LEAST, GREATEST}) {
            refused("element(" + e + ")", ARGUMENT, RefusalsTest::grown, x -> x.element(e));
            refused("element(" + e + ") behind 12", ARGUMENT, RefusalsTest::withFullHand, x -> x.element(e));
        }
        for (int e : new int[] {0, 31, 32, 47}) {
            refused("element(" + e + ") behind 12", STATE, RefusalsTest::withFullHand, x -> x.element(e));
        }
    }

    private static void ruleRefused() {
        for (Act before : new Act[] {RefusalsTest::grown, RefusalsTest::withAllRules, RefusalsTest::withAllNodes}) {
            refused("rule(4, 0, ..)", STATE, before, x -> x.rule(4, 0, LEAST, GREATEST));
            refused("rule(4, 0, 0, 0)", STATE, before, x -> x.rule(4, 0, 0, 0));
            refused("rule(16, 0, 0, 0)", STATE, before, x -> x.rule(16, 0, 0, 0));
            refused("rule(4, 100, 0, 0)", STATE, before, x -> x.rule(4, 100, 0, 0));
            refused("rule(4, 0, 1, 0)", STATE, before, x -> x.rule(4, 0, 1, 0));
        }
        Act withPattern = x -> {
            grown(x);
            x.element(33);
        };
        refused("rule of a pattern, with nodes", STATE, withPattern, x -> x.rule(4, 0, LEAST, GREATEST));
    }

    /** It goes on as one that has nothing at hand. */
    private static void ruleWrong() {
        int[][] wrong = {{-1, 0, 0, 0}, {16, 0, 0, 0}, {4, -1, 0, 0}, {4, 100, 0, 0}, {4, 0, 1, 0},
            {4, 0, GREATEST, LEAST}};
        Act withPattern = x -> {
            grammar(x);
            Check.tellElements(x, 1, 32);
        };
        for (int[] w : wrong) {
            refused("rule(" + w[0] + ", " + w[1] + ", " + w[2] + ", " + w[3] + ")", ARGUMENT, withPattern,
                    RefusalsTest::grammar, x -> x.rule(w[0], w[1], w[2], w[3]));
        }
        int[][] none = {{}, {1}, {2, 32}, {0, 0}, {32, 32}, {7}, {1, 7}, {1, 1, 1, 1, 1, 1, 1, 1, 1, 1, 1, 1}};
        for (int[] elements : none) {
            Act withNone = x -> {
                grammar(x);
                Check.tellElements(x, elements);
            };
            refused("rule of no pattern", ARGUMENT, withNone, RefusalsTest::grammar,
                    x -> x.rule(4, 0, LEAST, GREATEST));
            refused("rule of no pattern, with limits", ARGUMENT, withNone, RefusalsTest::grammar,
                    x -> x.rule(4, 0, 0, 0));
        }
    }

    private static void node() {
        int[][] wrong = {{-1, N, N}, {3, N, N}, {32, N, N}, {0, 3, N}, {0, N, 3}, {0, 3, 4}, {1, N, N}, {1, N, 3},
            {1, 3, 4}, {1, 5, N}, {1, 0, N}, {2, 3, N}, {2, N, 3}, {2, 3, 3}, {2, 3, 5}, {2, 5, 3}, {2, 3, 0},
            {2, 0, 3}, {2, 4, LEAST}, {2, GREATEST, 4}};
        for (int[] w : wrong) {
            refused("node(" + w[0] + ", 7, " + w[1] + ", " + w[2] + ")", ARGUMENT, RefusalsTest::grown,
                    x -> x.node(w[0], 7, w[1], w[2]));
        }
        refused("node 200", STATE, RefusalsTest::withAllNodes, x -> x.node(0, 7, N, N));
        refused("node 200 above one", STATE, RefusalsTest::withAllNodes, x -> x.node(1, 7, 3, N));
        refused("node 200 above two", STATE, RefusalsTest::withAllNodes, x -> x.node(2, 7, 4, 3));
        TreeMatcher y = new TreeMatcher();
        withAllNodes(y);
        Check.throwing("node 200 above the free node 3", STATE, () -> y.node(1, 7, 3, N));
        Check.throwing("which is still free: there is no room, but no fault", STATE, () -> y.node(1, 7, 3, N));
    }

    private static void questions() {
        int[][] wrong = {{-1, 0}, {5, 0}, {0, -1}, {0, 16}, {LEAST, GREATEST}};
        for (int[] w : wrong) {
            String arguments = "(" + w[0] + ", " + w[1] + ")";
            refused("cost" + arguments, INDEX, RefusalsTest::grown, x -> x.cost(w[0], w[1]));
            refused("ruleAt" + arguments, INDEX, RefusalsTest::grown, x -> x.ruleAt(w[0], w[1]));
            refused("pair" + arguments, INDEX, RefusalsTest::grown, x -> x.pair(w[0], w[1]));
            refused("same" + arguments, INDEX, RefusalsTest::grown, x -> x.same(w[0], w[1]));
        }
        refused("count(-1)", INDEX, RefusalsTest::grown, x -> x.count(-1));
        refused("count(6)", INDEX, RefusalsTest::grown, x -> x.count(6));
    }

    private static void cover() {
        int[][] wrong = {{-1, 0}, {5, 0}, {0, -1}, {0, 16}, {LEAST, GREATEST}};
        for (int[] w : wrong) {
            refused("cover(" + w[0] + ", " + w[1] + ")", INDEX, RefusalsTest::grown, x -> x.cover(w[0], w[1]));
        }
        refused("cover(4, 0), without a cost", STATE, RefusalsTest::grown, x -> x.cover(4, 0));
        refused("cover(0, 15), without a cost", STATE, RefusalsTest::grown, x -> x.cover(0, 15));
        refused("cover(125, 0), of 2,001 pairs", STATE, RefusalsTest::withLongCovers, x -> x.cover(125, 0));
        refused("cover(125, 15), of 2,016 pairs", STATE, RefusalsTest::withLongCovers, x -> x.cover(125, 15));
        refused("cover(125, 15), with no cover before", STATE, x -> {
            withLongCovers(x);
            x.clear();
            int top = Check.leaf(x, 0);
            for (int k = 1; k < 126; k++) {
                top = Check.above(x, 0, top);
            }
        }, x -> x.cover(125, 15));
    }

    private static void states() {
        refused("states(), with limits", STATE, RefusalsTest::withLimits, TreeMatcher::states);
        refused("states(), without end", STATE, RefusalsTest::withoutEnd, TreeMatcher::states);
        TreeMatcher x = new TreeMatcher();
        withoutEnd(x);
        Check.throwing("states(), without end", STATE, x::states);
        Check.rule(x, 1, 5, 32);
        Check.due("and with a rule that makes an end", x.states(), 7);
    }
}
