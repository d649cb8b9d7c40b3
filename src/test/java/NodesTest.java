/** Promises 5 to 7: node, cost, ruleAt. */
public final class NodesTest {
    private static final int N = TreeMatcher.NONE;

    public static void main(String[] args) {
        kids();
        mostNodes();
        indexes();
        firstOfEqualCosts();
        chainsAtOnce();
        chainsGoDeepFirst();
        chainsInACircle();
        limitsOfTheLastOperator();
        limitsOfChainRules();
        unfitPatterns();
        deepPatterns();
        Check.end();
    }

    private static TreeMatcher withOperators() {
        TreeMatcher x = new TreeMatcher();
        x.operator(0, 0);
        x.operator(1, 1);
        x.operator(2, 2);
        return x;
    }

    private static void kids() {
        TreeMatcher x = withOperators();
        int[][] alone = {{-1, N, N}, {32, N, N}, {3, N, N}, {Check.LEAST, N, N}, {Check.GREATEST, N, N},
            {0, 0, N}, {0, N, 0}, {1, N, N}, {1, 0, N}, {2, N, N}, {0, -2, N}, {0, N, -2}};
        wrongNodes(x, alone);
        for (int k = 0; k < 4; k++) {
            Check.due("leaf " + k, x.node(0, k, N, N), k);
        }
        int[][] wrong = {{0, 0, N}, {0, N, 0}, {0, 0, 1}, {1, N, 0}, {1, 0, 1}, {1, 4, N}, {1, -2, N}, {1, N, N},
            {2, 0, N}, {2, N, 0}, {2, 0, 0}, {2, 0, 4}, {2, 4, 0}, {2, Check.LEAST, Check.GREATEST},
            {1, 0, -2}, {1, 0, Check.GREATEST}};
        wrongNodes(x, wrong);
        Check.due("kids of wrong nodes are still free", x.node(2, 0, 1, 0), 4);
        wrongNodes(x, new int[][] {{1, 0, N}, {1, 1, N}, {2, 0, 2}, {2, 2, 1}, {1, 5, N}});
        Check.due("above a node with kids", x.node(1, 0, 4, N), 5);
        Check.due("above that and a leaf", x.node(2, 0, 5, 3), 6);
        Check.due("7 nodes", x.count(2), 7);
        x.clear();
        Check.due("numbers begin anew", x.node(0, 0, N, N), 0);
        Check.due("and no one is a kid", x.node(1, 0, 0, N), 1);
    }

    private static void wrongNodes(TreeMatcher x, int[][] wrong) {
        for (int[] w : wrong) {
            Check.wrongArgument("node(" + w[0] + ", 0, " + w[1] + ", " + w[2] + ")",
                    () -> x.node(w[0], 0, w[1], w[2]));
        }
    }

    private static void mostNodes() {
        TreeMatcher x = withOperators();
        for (int k = 0; k < 200; k++) {
            Check.due("node " + k, x.node(0, 0, N, N), k);
        }
        Check.wrongState("node 200", () -> x.node(0, 0, N, N));
        Check.wrongState("node 200 with kids", () -> x.node(2, 0, 0, 1));
        Check.wrongArgument("node 200 of no operator", () -> x.node(3, 0, N, N));
        Check.wrongArgument("node 200 with a wrong kid", () -> x.node(1, 0, 200, N));
        Check.due("200 nodes", x.count(2), 200);
    }

    private static void indexes() {
        TreeMatcher x = withOperators();
        Check.rule(x, 15, 3, 0);
        x.node(0, 0, N, N);
        Check.due("cost(0, 15)", x.cost(0, 15), 3);
        Check.due("ruleAt(0, 15)", x.ruleAt(0, 15), 0);
        Check.due("cost(0, 0)", x.cost(0, 0), N);
        Check.due("ruleAt(0, 0)", x.ruleAt(0, 0), N);
        int[][] wrong = {{-1, 0}, {1, 0}, {0, -1}, {0, 16}, {199, 0}, {200, 0}, {Check.LEAST, 0},
            {0, Check.GREATEST}, {Check.GREATEST, Check.GREATEST}};
        for (int[] w : wrong) {
            Check.wrongIndex("cost(" + w[0] + ", " + w[1] + ")", () -> x.cost(w[0], w[1]));
            Check.wrongIndex("ruleAt(" + w[0] + ", " + w[1] + ")", () -> x.ruleAt(w[0], w[1]));
        }
        x.clear();
        Check.wrongIndex("cost behind clear", () -> x.cost(0, 15));
        Check.wrongIndex("ruleAt behind clear", () -> x.ruleAt(0, 15));
    }

    private static void firstOfEqualCosts() {
        TreeMatcher x = withOperators();
        Check.rule(x, 0, 5, 0);
        Check.rule(x, 0, 4, 0);
        Check.rule(x, 0, 4, 0);
        Check.rule(x, 0, 6, 0);
        x.node(0, 0, N, N);
        Check.due("the least cost", x.cost(0, 0), 4);
        Check.due("the first rule that has it", x.ruleAt(0, 0), 1);
    }

    /** The chain rule comes at once, ahead of a rule with a smaller number than its own. */
    private static void chainsAtOnce() {
        TreeMatcher x = withOperators();
        Check.rule(x, 0, 2, 0);
        Check.rule(x, 1, 3, 0);
        Check.rule(x, 1, 1, 32);
        x.node(0, 0, N, N);
        Check.due("the chain rule's cost", x.cost(0, 1), 3);
        Check.due("the chain rule was first", x.ruleAt(0, 1), 2);

        TreeMatcher y = withOperators();
        Check.rule(y, 1, 3, 0);
        Check.rule(y, 0, 2, 0);
        Check.rule(y, 1, 1, 32);
        y.node(0, 0, N, N);
        Check.due("the other rule was first", y.ruleAt(0, 1), 0);
    }

    /** Behind 0 stands 1, and behind 1 at once 3, ahead of 3 by way of 2, and of 3 from 0 itself. */
    private static void chainsGoDeepFirst() {
        TreeMatcher x = withOperators();
        Check.rule(x, 1, 1, 32);
        Check.rule(x, 2, 0, 32);
        Check.rule(x, 3, 2, 32);
        Check.rule(x, 3, 2, 34);
        Check.rule(x, 3, 1, 33);
        Check.rule(x, 0, 7, 0);
        x.node(0, 0, N, N);
        Check.due("cost of 3", x.cost(0, 3), 9);
        Check.due("rule of 3", x.ruleAt(0, 3), 4);
        Check.due("rule of 1", x.ruleAt(0, 1), 0);
        Check.due("cost of 2", x.cost(0, 2), 7);
    }

    private static void chainsInACircle() {
        TreeMatcher x = withOperators();
        Check.rule(x, 1, 0, 32);
        Check.rule(x, 0, 0, 33);
        Check.rule(x, 0, 0, 32);
        Check.rule(x, 0, 9, 0);
        Check.rule(x, 1, 8, 0);
        x.node(0, 0, N, N);
        Check.due("cost of 0", x.cost(0, 0), 8);
        Check.due("rule of 0", x.ruleAt(0, 0), 1);
        Check.due("rule of 1", x.ruleAt(0, 1), 4);
        Check.due("cover of 0", x.cover(0, 0), 2);
    }

    private static void limitsOfTheLastOperator() {
        TreeMatcher x = withOperators();
        Check.rule(x, 0, 1, 0);
        Check.limited(x, 1, 0, -3, 4, 2, 1, 0, 32);
        int[] values = {-4, -3, 0, 4, 5, Check.LEAST, Check.GREATEST};
        int[] costs = {N, 1, 1, 1, N, N, N};
        for (int k = 0; k < values.length; k++) {
            x.clear();
            x.node(0, values[k], N, N);
            x.node(1, 100, 0, N);
            x.node(0, 100, N, N);
            x.node(2, 100, 1, 2);
            Check.due("the last operator's value is " + values[k], x.cost(3, 1), costs[k]);
        }
        TreeMatcher y = withOperators();
        Check.rule(y, 0, 1, 0);
        Check.limited(y, 1, 0, 7, 7, 2, 32, 32);
        y.node(0, 8, N, N);
        y.node(0, 8, N, N);
        y.node(2, 7, 0, 1);
        Check.due("the root is the last operator", y.cost(2, 1), 2);
        y.clear();
        y.node(0, 7, N, N);
        y.node(0, 7, N, N);
        y.node(2, 8, 0, 1);
        Check.due("the kids are none of the pattern's operators", y.cost(2, 1), N);
    }

    private static void limitsOfChainRules() {
        TreeMatcher x = withOperators();
        Check.rule(x, 0, 1, 0);
        Check.limited(x, 1, 2, 5, 6, 32);
        x.node(0, 100, N, N);
        Check.due("limits of a chain rule are not looked at", x.cost(0, 1), 3);
    }

    private static void unfitPatterns() {
        TreeMatcher x = withOperators();
        Check.rule(x, 0, 1, 0);
        Check.rule(x, 1, 1, 2, 32, 33);
        Check.rule(x, 2, 1, 1, 1, 32);
        x.node(0, 0, N, N);
        x.node(0, 0, N, N);
        x.node(2, 0, 0, 1);
        x.node(1, 0, 2, N);
        Check.due("no cost of the second kid", x.cost(2, 1), N);
        Check.due("another operator below", x.cost(3, 2), N);
        Check.due("no rule then", x.ruleAt(3, 2), N);
    }

    private static void deepPatterns() {
        TreeMatcher x = withOperators();
        Check.rule(x, 0, 3, 0);
        Check.rule(x, 1, 50, 0);
        Check.rule(x, 2, 7, 2, 2, 32, 1, 33, 2, 0, 32);
        x.node(0, 0, N, N);
        x.node(0, 0, N, N);
        x.node(1, 0, 1, N);
        x.node(2, 0, 0, 2);
        x.node(0, 0, N, N);
        x.node(0, 0, N, N);
        x.node(2, 0, 4, 5);
        x.node(2, 0, 3, 6);
        Check.due("cost of a deep pattern", x.cost(7, 2), 7 + 3 + 50 + 3);
        Check.due("its rule", x.ruleAt(7, 2), 2);
        Check.due("its cover", x.cover(7, 2), 4);
        int[][] pairs = {{0, 0}, {1, 1}, {5, 0}, {7, 2}};
        for (int k = 0; k < pairs.length; k++) {
            Check.due("node of pair " + k, x.pair(k, 0), pairs[k][0]);
            Check.due("rule of pair " + k, x.pair(k, 1), pairs[k][1]);
        }
    }
}
