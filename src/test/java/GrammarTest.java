/** Promises 1 to 4: a new object, operator, element, rule. */
public final class GrammarTest {
    private static final int N = TreeMatcher.NONE;

    public static void main(String[] args) {
        newObject();
        operator();
        element();
        ruleNumbersAndEdges();
        ruleOfNoPattern();
        ruleDropsTheHand();
        ruleKeepsTheHandWhereThereIsNoRoom();
        ruleWithNodes();
        Check.end();
    }

    private static void newObject() {
        TreeMatcher x = new TreeMatcher();
        int[] counts = {0, 0, 0, 0, 16, 0};
        for (int what = 0; what < counts.length; what++) {
            Check.due("new: count(" + what + ")", x.count(what), counts[what]);
        }
        Check.due("new: states()", x.states(), 0);
        Check.due("new: clear()", x.clear(), 0);
        Check.wrongIndex("new: cost(0, 0)", () -> x.cost(0, 0));
        Check.wrongIndex("new: pair(0, 0)", () -> x.pair(0, 0));
        Check.wrongArgument("new: node(0, 0, -1, -1)", () -> x.node(0, 0, N, N));
        Check.wrongArgument("new: rule without a pattern", () -> x.rule(0, 0, 0, 0));
    }

    private static void operator() {
        TreeMatcher x = new TreeMatcher();
        Check.due("operator(31, 2)", x.operator(31, 2), 1);
        Check.due("operator(0, 0)", x.operator(0, 0), 2);
        Check.due("operator(7, 1)", x.operator(7, 1), 3);
        int[][] wrong = {{-1, 0}, {32, 0}, {1, -1}, {1, 3}, {31, 3}, {Check.LEAST, 0}, {Check.GREATEST, 0},
            {1, Check.GREATEST}, {1, Check.LEAST}};
        for (int[] w : wrong) {
            Check.wrongArgument("operator(" + w[0] + ", " + w[1] + ")", () -> x.operator(w[0], w[1]));
        }
        Check.wrongState("operator(31, 2) again", () -> x.operator(31, 2));
        Check.wrongState("operator(0, 1) again", () -> x.operator(0, 1));
        Check.due("operators after the wrong ones", x.count(0), 3);
        Check.due("a leaf still has no kids", x.node(0, 0, N, N), 0);
        Check.due("operator(1, 1) with a node", x.operator(1, 1), 4);
        Check.due("its node", x.node(1, 0, 0, N), 1);
    }

    private static void element() {
        TreeMatcher x = new TreeMatcher();
        Check.wrongArgument("element(-1)", () -> x.element(-1));
        Check.wrongArgument("element(48)", () -> x.element(48));
        Check.wrongArgument("element(greatest)", () -> x.element(Check.GREATEST));
        Check.wrongArgument("element(least)", () -> x.element(Check.LEAST));
        Check.due("no element at hand", x.count(3), 0);
        int[] some = {0, 31, 32, 47, 5, 5, 5, 5, 5, 5, 5, 5};
        for (int k = 0; k < some.length; k++) {
            Check.due("element " + k, x.element(some[k]), k + 1);
        }
        Check.wrongState("element 13", () -> x.element(0));
        Check.wrongArgument("element 13, a wrong one", () -> x.element(48));
        Check.due("12 at hand", x.count(3), 12);
        Check.wrongArgument("what is no pattern", () -> x.rule(0, 0, 0, 0));
        Check.due("an element of the next pattern", x.element(32), 1);
    }

    private static void ruleNumbersAndEdges() {
        TreeMatcher x = new TreeMatcher();
        x.operator(0, 0);
        x.operator(1, 1);
        x.operator(2, 2);
        Check.due("a leaf", Check.rule(x, 0, 0, 0), 0);
        Check.due("a chain rule", Check.rule(x, 15, 99, 47), 1);
        Check.due("low is high", Check.limited(x, 1, 1, 5, 5, 2, 32, 1, 33), 2);
        Check.due("least limits", Check.limited(x, 1, 1, Check.LEAST, Check.LEAST, 1, 32), 3);
        Check.due("12 elements", Check.rule(x, 2, 1, 1, 1, 1, 1, 1, 1, 1, 1, 1, 1, 1, 0), 4);
        Check.due("5 rules", x.count(1), 5);
        Check.due("parts: 1, 0, 2, 1 and 12 beside the nonterminals", x.count(4), 16 + 16);
        int[][] wrong = {{-1, 0, 0, 0}, {16, 0, 0, 0}, {0, -1, 0, 0}, {0, 100, 0, 0}, {0, 0, 1, 0},
            {0, 0, Check.GREATEST, Check.LEAST}, {Check.LEAST, 0, 0, 0}, {0, Check.GREATEST, 0, 0}};
        for (int[] w : wrong) {
            x.element(0);
            Check.wrongArgument("rule(" + w[0] + ", " + w[1] + ", " + w[2] + ", " + w[3] + ")",
                    () -> x.rule(w[0], w[1], w[2], w[3]));
            Check.due("nothing at hand behind it", x.count(3), 0);
        }
        Check.due("still 5 rules", x.count(1), 5);
        Check.due("still as many parts", x.count(4), 32);
    }

    private static void ruleOfNoPattern() {
        int[][] wrong = {{}, {1}, {2, 32}, {0, 0}, {32, 32}, {32, 0}, {1, 0, 0}, {2, 0, 0, 0}, {9}, {1, 9},
            {2, 1, 32, 9}, {2, 2, 0, 0}, {1, 1, 1, 1, 1, 1, 1, 1, 1, 1, 1, 1}, {0, 9}, {0, 2, 32},
            {32, 2, 33}};
        TreeMatcher x = new TreeMatcher();
        x.operator(0, 0);
        x.operator(1, 1);
        x.operator(2, 2);
        for (int k = 0; k < wrong.length; k++) {
            int[] elements = wrong[k];
            Check.wrongArgument("no pattern " + k, () -> Check.rule(x, 0, 0, elements));
        }
        Check.due("no rules", x.count(1), 0);
        x.element(9);
        x.operator(9, 0);
        Check.due("an operator that came after its element", x.rule(0, 0, 0, 0), 0);
    }

    private static void ruleDropsTheHand() {
        TreeMatcher x = new TreeMatcher();
        x.operator(0, 0);
        x.element(0);
        x.rule(0, 0, 0, 0);
        Check.due("nothing at hand behind a rule", x.count(3), 0);
        x.element(0);
        Check.wrongArgument("a wrong cost", () -> x.rule(0, 100, 0, 0));
        Check.due("nothing at hand behind a wrong rule", x.count(3), 0);
        Check.wrongArgument("nothing at hand is no pattern", () -> x.rule(0, 0, 0, 0));
    }

    private static void ruleKeepsTheHandWhereThereIsNoRoom() {
        TreeMatcher x = new TreeMatcher();
        x.operator(0, 0);
        for (int k = 0; k < 64; k++) {
            Check.due("rule " + k, Check.rule(x, k % 16, k, 0), k);
        }
        x.element(0);
        Check.wrongState("rule 64", () -> x.rule(0, 0, 0, 0));
        Check.wrongState("rule 64, a wrong one", () -> x.rule(16, 100, 1, 0));
        Check.due("its pattern stays", x.count(3), 1);
        Check.due("64 rules", x.count(1), 64);
        Check.due("80 parts", x.count(4), 80);
    }

    private static void ruleWithNodes() {
        TreeMatcher x = new TreeMatcher();
        x.operator(0, 0);
        x.node(0, 0, N, N);
        x.element(0);
        Check.wrongState("a rule with nodes", () -> x.rule(0, 0, 0, 0));
        Check.wrongState("a wrong rule with nodes", () -> x.rule(-1, 0, 0, 0));
        Check.due("the pattern stays", x.count(3), 1);
        x.clear();
        Check.due("and becomes a rule", x.rule(0, 0, 0, 0), 0);
    }
}
