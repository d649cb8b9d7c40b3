/** Promises 10 and 11: states, same. */
public final class StatesTest {
    private static final int N = TreeMatcher.NONE;

    public static void main(String[] args) {
        withoutRules();
        growsWithTheGrammar();
        rulesWithLimits();
        mostStates();
        statesWithoutEnd();
        patternsWithinPatterns();
        bothKids();
        costsThatDouble();
        costsBeyondInts();
        same();
        sameWhereNothingFits();
        greatGrammar();
        Check.end();
    }

    private static void withoutRules() {
        TreeMatcher x = new TreeMatcher();
        Check.due("no operators", x.states(), 0);
        x.operator(1, 1);
        x.operator(2, 2);
        Check.due("no leaves, no trees", x.states(), 0);
        x.operator(0, 0);
        x.operator(3, 0);
        Check.due("nothing fits at any tree", x.states(), 1);
    }

    private static void growsWithTheGrammar() {
        TreeMatcher x = new TreeMatcher();
        x.operator(0, 0);
        Check.due("one leaf", x.states(), 1);
        Check.rule(x, 0, 1, 0);
        Check.due("one leaf with a rule", x.states(), 1);
        x.operator(1, 0);
        Check.due("a leaf without a rule", x.states(), 2);
        Check.rule(x, 0, 1, 1);
        Check.due("parts tell leaves apart that cost the same", x.states(), 2);
        Check.rule(x, 1, 7, 32);
        Check.due("a chain rule alone tells none apart", x.states(), 2);
        x.operator(2, 1);
        Check.due("a unary operator without a rule", x.states(), 3);
        x.node(0, 0, N, N);
        Check.due("nodes don't matter", x.states(), 3);
    }

    private static void rulesWithLimits() {
        int[][] limits = {{0, 0}, {Check.LEAST, Check.GREATEST - 1}, {Check.LEAST + 1, Check.GREATEST}};
        for (int[] l : limits) {
            TreeMatcher x = new TreeMatcher();
            x.operator(0, 0);
            Check.limited(x, 0, 0, l[0], l[1], 0);
            Check.wrongState("a rule with limits " + l[0] + ", " + l[1], x::states);
            Check.rule(x, 0, 0, 0);
            Check.wrongState("another one without", x::states);
            TreeMatcher y = new TreeMatcher();
            y.operator(0, 0);
            Check.limited(y, 0, 0, l[0], l[1], 32);
            Check.wrongState("a chain rule with limits", y::states);
            TreeMatcher z = new TreeMatcher();
            Check.limited(z, 0, 0, l[0], l[1], 32);
            Check.wrongState("without any tree", z::states);
        }
    }

    /** 1 costs so much more than 0 at the leaf, and one less with each operator above it, until it costs the same. */
    private static TreeMatcher countdown(int from) {
        TreeMatcher x = new TreeMatcher();
        x.operator(0, 0);
        x.operator(1, 1);
        Check.rule(x, 0, 0, 0);
        Check.rule(x, 1, from, 0);
        Check.rule(x, 0, 1, 1, 32);
        Check.rule(x, 1, 0, 1, 33);
        Check.rule(x, 0, 0, 33);
        return x;
    }

    /** The leaf's state, and one for each distance of the kid: from, .. 1, 0. */
    private static void mostStates() {
        for (int from = 0; from <= 58; from++) {
            Check.due("states from " + from, countdown(from).states(), from + 2);
        }
        TreeMatcher x = countdown(59);
        Check.wrongState("61 states", x::states);
        Check.wrongState("61 states, asked again", x::states);
        TreeMatcher y = countdown(99);
        Check.wrongState("101 states", y::states);
        Check.due("it is still of use", y.node(0, 0, N, N), 0);
        TreeMatcher z = countdown(58);
        z.operator(2, 0);
        Check.wrongState("60 states, and one where nothing fits", z::states);
    }

    private static void statesWithoutEnd() {
        TreeMatcher x = new TreeMatcher();
        x.operator(0, 0);
        x.operator(1, 1);
        Check.rule(x, 0, 0, 0);
        Check.rule(x, 1, 0, 0);
        Check.rule(x, 0, 0, 1, 32);
        Check.rule(x, 1, 1, 1, 33);
        Check.wrongState("a distance that always grows", x::states);
        Check.rule(x, 1, 5, 32);
        Check.due("a chain rule that ends it", x.states(), 7);
        TreeMatcher y = new TreeMatcher();
        y.operator(0, 0);
        y.operator(1, 2);
        Check.rule(y, 0, 0, 0);
        Check.rule(y, 1, 1, 0);
        Check.rule(y, 0, 0, 1, 32, 32);
        Check.rule(y, 1, 0, 1, 33, 33);
        Check.wrongState("a distance that always doubles", y::states);
    }

    /** All nonterminals lack a cost, but the parts tell how deep a tree is. */
    private static void patternsWithinPatterns() {
        TreeMatcher x = new TreeMatcher();
        x.operator(0, 0);
        x.operator(1, 1);
        x.operator(2, 0);
        Check.rule(x, 0, 5, 1, 1, 1, 1, 2);
        Check.due("2, 1 .. 4 above it, and all other trees", x.states(), 6);
        Check.rule(x, 0, 5, 1, 1, 1, 1, 2);
        Check.due("a rule that is alike", x.states(), 6);
        Check.due("but its parts are parts", x.count(4), 26);
    }

    /** The first kid and the second one are not alike, nor are the pairs that come late. */
    private static void bothKids() {
        TreeMatcher x = new TreeMatcher();
        x.operator(0, 0);
        x.operator(1, 0);
        x.operator(2, 2);
        Check.rule(x, 0, 0, 0);
        Check.rule(x, 1, 0, 1);
        Check.rule(x, 2, 0, 2, 32, 33);
        Check.due("leaves, 2 above 0 and 1, and all other trees", x.states(), 4);
        Check.rule(x, 3, 0, 2, 34, 34);
        Check.rule(x, 4, 0, 2, 32, 35);
        Check.rule(x, 5, 0, 2, 35, 33);
        Check.due("pairs of new states with old ones on either side", x.states(), 7);
    }

    /** Two nonterminals for each height, of which one doubles its cost with the height. */
    private static void costsThatDouble() {
        TreeMatcher x = new TreeMatcher();
        x.operator(0, 0);
        Check.rule(x, 0, 0, 0);
        Check.rule(x, 1, 99, 0);
        x.operator(1, 2);
        for (int n = 0; n < 14; n += 2) {
            Check.rule(x, n + 2, 0, 1, 32 + n, 32 + n);
            Check.rule(x, n + 3, 0, 1, 33 + n, 33 + n);
        }
        Check.due("the leaf, 7 above it, and all other trees", x.states(), 9);
        int root = fullTree(x, 6);
        Check.due("the costs have doubled 6 times", x.cost(root, 13), 99 * 64);
        Check.due("and the lesser one has not", x.cost(root, 12), 0);
    }

    /** Beside 0, which costs nothing, a nonterminal for each second height, up to 28: 99 times 2 to the 28th. */
    private static void costsBeyondInts() {
        TreeMatcher x = new TreeMatcher();
        x.operator(0, 0);
        x.operator(1, 2);
        Check.rule(x, 0, 0, 0);
        Check.rule(x, 1, 99, 0);
        Check.rule(x, 0, 0, 1, 32, 32);
        for (int n = 1; n < 15; n++) {
            int e = 32 + n;
            Check.rule(x, n + 1, 99, 1, 1, e, e, 1, e, e);
        }
        Check.due("the leaf, 28 above it, and all other trees", x.states(), 30);
    }

    /** A full tree of the binary operator 1 over leaves 0: its root. */
    private static int fullTree(TreeMatcher x, int height) {
        if (height == 0) {
            return x.node(0, 0, N, N);
        }
        int left = fullTree(x, height - 1);
        int right = fullTree(x, height - 1);
        return x.node(1, 0, left, right);
    }

    private static void same() {
        TreeMatcher x = new TreeMatcher();
        x.operator(0, 0);
        x.operator(1, 1);
        x.operator(2, 2);
        Check.limited(x, 0, 3, 0, 9, 0);
        Check.limited(x, 1, 5, 0, 9, 1, 32);
        Check.rule(x, 0, 2, 1, 32);
        x.node(0, 5, N, N);
        x.node(0, 50, N, N);
        x.node(1, 5, 0, N);
        x.node(1, 50, 1, N);
        x.node(1, 50, 3, N);
        x.node(0, 5, N, N);
        x.node(2, 5, 2, 5);
        Check.due("outside of the limits", x.cost(1, 0), N);
        Check.due("limits are not looked at", x.same(0, 1), true);
        Check.due("nor below", x.same(2, 3), true);
        Check.due("costs that are all greater", x.same(2, 4), true);
        Check.due("another operator", x.same(0, 2), false);
        Check.due("a kid is no matter", x.same(5, 0), true);
        Check.due("nothing fits there", x.same(6, 0), false);
        for (int k = 0; k < 7; k++) {
            Check.due("itself " + k, x.same(k, k), true);
        }
        int[][] wrong = {{-1, 0}, {0, -1}, {7, 0}, {0, 7}, {7, 7}, {Check.LEAST, Check.GREATEST}, {200, 0}};
        for (int[] w : wrong) {
            Check.wrongIndex("same(" + w[0] + ", " + w[1] + ")", () -> x.same(w[0], w[1]));
        }
    }

    private static void sameWhereNothingFits() {
        TreeMatcher x = new TreeMatcher();
        x.operator(0, 0);
        x.operator(1, 0);
        x.operator(2, 1);
        Check.rule(x, 0, 0, 2, 2, 0);
        x.node(0, 0, N, N);
        x.node(1, 0, N, N);
        x.node(2, 0, 1, N);
        x.node(2, 0, 0, N);
        Check.due("under two operators", x.same(1, 2), true);
        Check.due("a part within fits", x.same(0, 1), false);
        Check.due("and one more above it", x.same(2, 3), false);
        x.clear();
        Check.rule(x, 1, 0, 1);
        x.node(1, 0, N, N);
        x.node(2, 0, 0, N);
        Check.due("a rule more", x.same(0, 1), false);
    }

    /** As many operators, rules and parts as there may be within 512 calls, many times over. */
    private static void greatGrammar() {
        TreeMatcher x = new TreeMatcher();
        x.operator(0, 0);
        for (int k = 1; k < 32; k++) {
            x.operator(k, 2);
        }
        Check.rule(x, 0, 0, 0);
        for (int k = 1; k < 48; k++) {
            int o = 1 + k % 31;
            Check.rule(x, k % 16, 0, o, o, 32, 32, o, 32, 32);
        }
        for (int k = 1; k < 16; k++) {
            Check.rule(x, k, 0, 31 + k);
        }
        Check.wrongState("a great grammar", x::states);
        Check.due("its parts", x.count(4), 16 + 1 + 47 * 3);
    }
}
