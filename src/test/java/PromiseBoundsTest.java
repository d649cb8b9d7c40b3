/** The sentences of the promises that name a boundary case, one test each; refused calls stand in RefusalsTest too. */
public final class PromiseBoundsTest {
    private static final int N = TreeMatcher.NONE;
    private static final int LEAST = Check.LEAST;
    private static final int GREATEST = Check.GREATEST;

    public static void main(String[] args) {
        grammarSentences();
        nodeSentences();
        coverSentences();
        stateSentences();
        Check.end();
    }

    private static void grammarSentences() {
        Check.sentence("1: No operators, rules and nodes; no pattern at hand.", PromiseBoundsTest::newObject);
        Check.sentence("2: An operator with so many kids: how many operators there are.",
                PromiseBoundsTest::allOperators);
        Check.sentence("2: the number is not 0 .. 31", PromiseBoundsTest::operatorNumber);
        Check.sentence("2: or kids not 0 .. 2", PromiseBoundsTest::operatorKids);
        Check.sentence("2: there is one of the number", PromiseBoundsTest::operatorAgain);
        Check.sentence("3: One more element of the pattern at hand: how many it has.", PromiseBoundsTest::allElements);
        Check.sentence("3: it is not 0 .. 47", PromiseBoundsTest::elementNumber);
        Check.sentence("3: there are 12", PromiseBoundsTest::elementTooMany);
        Check.sentence("4: The pattern at hand (there is none then", PromiseBoundsTest::handBehindRule);
        Check.sentence("4: also when this throws IllegalArgumentException)", PromiseBoundsTest::handBehindWrongRule);
        Check.sentence("4: becomes a rule with limits: its number", PromiseBoundsTest::ruleWithLimits);
        Check.sentence("4: there are 64", PromiseBoundsTest::ruleTooMany);
        Check.sentence("4: or nodes", PromiseBoundsTest::ruleWithNodes);
        Check.sentence("4: gives is not 0 .. 15", PromiseBoundsTest::ruleGives);
        Check.sentence("4: cost not so", PromiseBoundsTest::ruleCost);
        Check.sentence("4: low above high", PromiseBoundsTest::ruleLimits);
        Check.sentence("4: or what is at hand is no pattern", PromiseBoundsTest::ruleOfNoPattern);
        Check.sentence("4: (also with an operator that there is not)", PromiseBoundsTest::ruleOfNoOperator);
    }

    private static void nodeSentences() {
        Check.sentence("5: A node (left and right NONE as far as it has no kids): its number.",
                PromiseBoundsTest::nodeKids);
        Check.sentence("5: there is no such operator", PromiseBoundsTest::nodeOfNoOperator);
        Check.sentence("5: or a kid is not so", PromiseBoundsTest::nodeWithWrongKid);
        Check.sentence("5: there are 200", PromiseBoundsTest::nodeTooMany);
        Check.sentence("6: The cost of a nonterminal at a node; NONE without.", PromiseBoundsTest::costOrNone);
        Check.sentence("6: there is no such node", PromiseBoundsTest::costOfNoNode);
        Check.sentence("6: or nonterminal", PromiseBoundsTest::costOfNoNonterminal);
        Check.sentence("7: Its rule there; NONE without.", PromiseBoundsTest::ruleOrNone);
        Check.sentence("7: likewise", PromiseBoundsTest::ruleOfNoLabel);
    }

    private static void coverSentences() {
        Check.sentence("8: in place of the one before: how many pairs", PromiseBoundsTest::coverInPlace);
        Check.sentence("8: likewise", PromiseBoundsTest::coverOfNoLabel);
        Check.sentence("8: it has no cost there", PromiseBoundsTest::coverWithoutCost);
        Check.sentence("8: or there would be more than 2,000 pairs", PromiseBoundsTest::coverTooLong);
        Check.sentence("8: (the one before stays)", PromiseBoundsTest::coverStays);
        Check.sentence("9: Of pair k the node (what 0) or the rule (1).", PromiseBoundsTest::pairs);
        Check.sentence("9: there is no such pair", PromiseBoundsTest::noSuchPair);
        Check.sentence("9: or what", PromiseBoundsTest::noSuchWhat);
        Check.sentence("12: No nodes, and no cover, any more", PromiseBoundsTest::nothingBehindClear);
        Check.sentence("12: how many nodes there were", PromiseBoundsTest::clearedNodes);
        Check.sentence("13: Operators (0), rules (1), nodes (2), elements at hand (3), parts (4), pairs (5).",
                PromiseBoundsTest::counts);
        Check.sentence("13: another one", PromiseBoundsTest::noSuchCount);
    }

    private static void stateSentences() {
        Check.sentence("10: How many states the grammar has.", PromiseBoundsTest::fewestStates);
        Check.sentence("10: a rule has limits", PromiseBoundsTest::statesWithLimits);
        Check.sentence("10: or there are more than 60 states", PromiseBoundsTest::tooManyStates);
        Check.sentence("11: (limits of rules are not looked at)", PromiseBoundsTest::sameWithoutLimits);
        Check.sentence("11: there is no such node", PromiseBoundsTest::sameOfNoNode);
    }

    private static void newObject() {
        TreeMatcher x = new TreeMatcher();
        int[] counts = {0, 0, 0, 0, 16, 0};
        for (int what = 0; what < counts.length; what++) {
            Check.due("count(" + what + ")", x.count(what), counts[what]);
        }
        Check.wrongArgument("no operator", () -> x.node(0, 0, N, N));
        Check.wrongArgument("no pattern", () -> x.rule(0, 0, 0, 0));
        Check.wrongIndex("no node", () -> x.cost(0, 0));
        Check.wrongIndex("no cover", () -> x.pair(0, 0));
        TreeMatcher used = withChain();
        used.element(3);
        TreeMatcher y = new TreeMatcher();
        for (int what = 0; what < counts.length; what++) {
            Check.due("beside another object, count(" + what + ")", y.count(what), counts[what]);
        }
    }

    private static void allOperators() {
        TreeMatcher x = new TreeMatcher();
        for (int k = 0; k < 32; k++) {
            Check.due("operator " + (31 - k), x.operator(31 - k, k % 3), k + 1);
        }
        Check.due("all", x.count(0), 32);
        Check.wrongState("one more", () -> x.operator(17, 0));
        Check.wrongArgument("a number more", () -> x.operator(32, 0));
        Check.due("still all", x.count(0), 32);
    }

    private static void operatorNumber() {
        TreeMatcher x = new TreeMatcher();
        for (int number : new int[] {-1, 32, 33, LEAST, GREATEST, 1 << 5, -32, 1 << 16}) {
            Check.wrongArgument("operator(" + number + ", 0)", () -> x.operator(number, 0));
        }
        Check.due("none", x.count(0), 0);
        Check.due("the least number", x.operator(0, 0), 1);
        Check.due("the greatest number", x.operator(31, 0), 2);
    }

    private static void operatorKids() {
        TreeMatcher x = new TreeMatcher();
        for (int kids : new int[] {-1, 3, 4, LEAST, GREATEST}) {
            Check.wrongArgument("operator(0, " + kids + ")", () -> x.operator(0, kids));
        }
        Check.due("none", x.count(0), 0);
        Check.due("the fewest kids", x.operator(0, 0), 1);
        Check.due("the most kids", x.operator(1, 2), 2);
    }

    private static void operatorAgain() {
        for (int number : new int[] {0, 31}) {
            for (int kids = 0; kids <= 2; kids++) {
                TreeMatcher x = new TreeMatcher();
                x.operator(number, kids);
                for (int again = 0; again <= 2; again++) {
                    int k = again;
                    Check.wrongState("operator(" + number + ", " + k + ") again", () -> x.operator(number, k));
                }
                Check.due("one", x.count(0), 1);
            }
        }
    }

    private static void allElements() {
        TreeMatcher x = new TreeMatcher();
        for (int first = 0; first < 48; first += 12) {
            for (int k = 0; k < 12; k++) {
                Check.due("element(" + (first + k) + ")", x.element(first + k), k + 1);
                Check.due("at hand", x.count(3), k + 1);
            }
            Check.wrongArgument("no pattern", () -> x.rule(0, 0, 0, 0));
        }
    }

    private static void elementNumber() {
        TreeMatcher x = new TreeMatcher();
        for (int e : new int[] {-1, 48, 49, 63, 64, LEAST, GREATEST, -33}) {
            Check.wrongArgument("element(" + e + ")", () -> x.element(e));
        }
        Check.due("none", x.count(3), 0);
        Check.due("the least", x.element(0), 1);
        Check.due("the greatest", x.element(47), 2);
    }

    private static void elementTooMany() {
        TreeMatcher x = Check.withOperators();
        Check.tellElements(x, 1, 1, 1, 1, 1, 1, 1, 1, 1, 1, 1);
        Check.due("the twelfth", x.element(0), 12);
        Check.wrongState("one more", () -> x.element(0));
        Check.wrongState("and again", () -> x.element(47));
        Check.due("12", x.count(3), 12);
        Check.due("a rule of the twelve", x.rule(0, 0, LEAST, GREATEST), 0);
        Check.due("the first one of the next pattern", x.element(0), 1);
    }

    private static void handBehindRule() {
        TreeMatcher x = Check.withOperators();
        Check.due("a rule", Check.rule(x, 0, 0, 0), 0);
        Check.due("nothing at hand", x.count(3), 0);
        Check.wrongArgument("the same pattern is not there again", () -> x.rule(0, 0, 0, 0));
        Check.due("the next pattern begins", x.element(0), 1);
    }

    private static void handBehindWrongRule() {
        int[][] wrong = {{-1, 0, 0, 0}, {16, 0, 0, 0}, {0, -1, 0, 0}, {0, 100, 0, 0}, {0, 0, 1, 0}};
        for (int[] w : wrong) {
            TreeMatcher x = Check.withOperators();
            x.element(0);
            Check.wrongArgument("a wrong rule of a pattern", () -> x.rule(w[0], w[1], w[2], w[3]));
            Check.due("nothing at hand", x.count(3), 0);
            Check.wrongArgument("nothing is no pattern", () -> x.rule(0, 0, 0, 0));
        }
        TreeMatcher y = Check.withOperators();
        Check.tellElements(y, 1);
        Check.wrongArgument("half a pattern", () -> y.rule(0, 0, 0, 0));
        Check.due("nothing of it at hand", y.count(3), 0);
        y.element(0);
        Check.due("what would have ended it is a pattern itself", y.rule(0, 0, 0, 0), 0);
        Check.due("of one part", y.count(4), 17);
    }

    private static void ruleWithLimits() {
        int[][] limits = {{LEAST, GREATEST}, {LEAST, LEAST}, {GREATEST, GREATEST}, {0, 0}, {-1, 0}};
        TreeMatcher x = Check.withOperators();
        for (int k = 0; k < limits.length; k++) {
            Check.due("rule " + k, Check.limited(x, k, k, limits[k][0], limits[k][1], 0), k);
        }
        Check.leaf(x, 0);
        int[] costs = {0, N, N, 3, 4};
        for (int n = 0; n < costs.length; n++) {
            Check.due("cost of " + n, x.cost(0, n), costs[n]);
        }
    }

    private static TreeMatcher withManyRules(int rules) {
        TreeMatcher x = Check.withOperators();
        for (int k = 0; k < rules; k++) {
            Check.rule(x, k % 16, k, 0);
        }
        return x;
    }

    private static void ruleTooMany() {
        TreeMatcher x = withManyRules(63);
        Check.due("the last one", Check.rule(x, 0, 63, 0), 63);
        x.element(0);
        Check.wrongState("one more", () -> x.rule(0, 0, 0, 0));
        Check.wrongState("one more of no pattern", () -> {
            x.element(0);
            x.rule(0, 0, 0, 0);
        });
        Check.due("what is at hand stays", x.count(3), 2);
        Check.due("64", x.count(1), 64);
        Check.due("parts", x.count(4), 80);
        x.clear();
        Check.wrongState("clear makes no room", () -> x.rule(0, 0, 0, 0));
    }

    private static void ruleWithNodes() {
        TreeMatcher x = Check.withOperators();
        Check.leaf(x, 0);
        Check.tellElements(x, 1, 32);
        Check.wrongState("with one node", () -> x.rule(0, 0, 0, 0));
        Check.due("what is at hand stays", x.count(3), 2);
        x.clear();
        Check.due("without", x.rule(0, 0, 0, 0), 0);
        Check.due("with all its elements", x.count(4), 17);
    }

    private static void ruleGives() {
        TreeMatcher x = Check.withOperators();
        for (int gives : new int[] {-1, 16, 32, 47, LEAST, GREATEST}) {
            x.element(0);
            Check.wrongArgument("gives " + gives, () -> x.rule(gives, 0, 0, 0));
        }
        Check.due("none", x.count(1), 0);
        Check.due("the least", Check.rule(x, 0, 0, 0), 0);
        Check.due("the greatest", Check.rule(x, 15, 0, 0), 1);
    }

    private static void ruleCost() {
        TreeMatcher x = Check.withOperators();
        for (int cost : new int[] {-1, 100, 101, LEAST, GREATEST}) {
            x.element(0);
            Check.wrongArgument("cost " + cost, () -> x.rule(0, cost, 0, 0));
        }
        Check.due("none", x.count(1), 0);
        Check.due("the least", Check.rule(x, 0, 0, 0), 0);
        Check.due("the greatest", Check.rule(x, 0, 99, 0), 1);
    }

    private static void ruleLimits() {
        int[][] wrong = {{1, 0}, {0, -1}, {GREATEST, LEAST}, {LEAST + 1, LEAST}, {GREATEST, GREATEST - 1}};
        TreeMatcher x = Check.withOperators();
        for (int[] w : wrong) {
            for (int element : new int[] {0, 32}) {
                x.element(element);
                Check.wrongArgument("limits " + w[0] + ", " + w[1], () -> x.rule(0, 0, w[0], w[1]));
            }
        }
        Check.due("none", x.count(1), 0);
        Check.due("low is high", Check.limited(x, 0, 0, 1, 1, 0), 0);
        Check.due("one apart", Check.limited(x, 0, 0, 0, 1, 0), 1);
        Check.due("as far apart as may be", Check.limited(x, 0, 0, LEAST, GREATEST, 0), 2);
    }

    private static void ruleOfNoPattern() {
        TreeMatcher x = Check.withOperators();
        Check.wrongArgument("empty", () -> Check.rule(x, 0, 0));
        Check.wrongArgument("one too few", () -> Check.rule(x, 0, 0, 2, 0));
        Check.wrongArgument("one too many", () -> Check.rule(x, 0, 0, 2, 0, 0, 0));
        Check.wrongArgument("a whole one and half a one", () -> Check.rule(x, 0, 0, 0, 2, 0));
        Check.wrongArgument("two whole ones", () -> Check.rule(x, 0, 0, 32, 1, 33));
        Check.wrongArgument("full, and one too few", () -> Check.rule(x, 0, 0, 1, 1, 1, 1, 1, 1, 1, 1, 1, 1, 1, 1));
        Check.wrongArgument("full, and one too many", () -> Check.rule(x, 0, 0, 1, 1, 1, 1, 1, 1, 1, 1, 1, 1, 0, 0));
        Check.due("none", x.count(1), 0);
    }

    private static void ruleOfNoOperator() {
        TreeMatcher x = Check.withOperators();
        int[][] wrong = {{3}, {31}, {1, 3}, {2, 0, 3}, {2, 3, 0}, {0, 3}, {3, 0}, {32, 3},
            {2, 3}, {1, 2, 31}};
        for (int k = 0; k < wrong.length; k++) {
            int[] elements = wrong[k];
            Check.wrongArgument("no operator " + k, () -> Check.rule(x, 0, 0, elements));
        }
        Check.due("none", x.count(1), 0);
        Check.tellElements(x, 1, 31);
        x.operator(31, 0);
        Check.due("one that is there by then", x.rule(0, 0, 0, 0), 0);
    }

    private static void nodeKids() {
        TreeMatcher x = Check.withOperators();
        Check.due("no kids", x.node(0, 0, N, N), 0);
        Check.due("one kid", x.node(1, 0, 0, N), 1);
        Check.due("no kids again", x.node(0, 0, N, N), 2);
        Check.due("two kids", x.node(2, 0, 2, 1), 3);
        x.clear();
        Check.due("numbers begin anew", x.node(0, 0, N, N), 0);
    }

    private static void nodeOfNoOperator() {
        TreeMatcher x = Check.withOperators();
        for (int operator : new int[] {-1, 3, 31, 32, 47, LEAST, GREATEST}) {
            Check.wrongArgument("operator " + operator, () -> x.node(operator, 0, N, N));
        }
        Check.due("none", x.count(2), 0);
        x.operator(31, 0);
        Check.due("the greatest number", x.node(31, 0, N, N), 0);
    }

    private static void nodeWithWrongKid() {
        TreeMatcher x = Check.withOperators();
        Check.leaf(x, 0);
        Check.leaf(x, 0);
        int[][] wrong = {{0, 0, N}, {0, N, 0}, {0, 0, 1}, {0, -2, N}, {0, N, -2}, {0, LEAST, N}, {0, N, GREATEST},
            {1, N, N}, {1, N, 0}, {1, 0, 1}, {1, 0, -2}, {1, 2, N}, {1, -2, N}, {1, LEAST, N}, {1, 0, GREATEST},
            {2, N, N}, {2, 0, N}, {2, N, 0}, {2, 0, 0}, {2, 0, 2}, {2, 2, 0}, {2, 0, -2}, {2, LEAST, 0},
            {2, 0, GREATEST}, {2, 200, 0}, {2, 0, 200}};
        for (int[] w : wrong) {
            Check.wrongArgument("node(" + w[0] + ", 0, " + w[1] + ", " + w[2] + ")",
                    () -> x.node(w[0], 0, w[1], w[2]));
        }
        Check.due("two", x.count(2), 2);
        Check.due("that are still no kids", x.node(2, 0, 0, 1), 2);
        Check.leaf(x, 0);
        for (int[] w : new int[][] {{1, 0, N}, {1, 1, N}, {2, 3, 0}, {2, 1, 3}}) {
            Check.wrongArgument("with a kid of another one: node(" + w[0] + ", 0, " + w[1] + ", " + w[2] + ")",
                    () -> x.node(w[0], 0, w[1], w[2]));
        }
        Check.due("four", x.count(2), 4);
    }

    private static void nodeTooMany() {
        TreeMatcher x = Check.withOperators();
        Check.rule(x, 0, 1, 0);
        Check.rule(x, 0, 1, 1, 32);
        int top = Check.leaf(x, 0);
        for (int k = 1; k < 200; k++) {
            top = Check.above(x, 0, top);
            Check.due("node " + k, top, k);
        }
        Check.wrongState("one more", () -> x.node(0, 0, N, N));
        Check.wrongState("one more above the last", () -> x.node(1, 0, 199, N));
        Check.due("200", x.count(2), 200);
        Check.due("the cost of the last", x.cost(199, 0), 200);
        Check.due("clear makes room", x.clear(), 200);
        Check.due("a node", x.node(0, 0, N, N), 0);
    }

    /** At node 0 nonterminal 0 costs nothing, 15 costs 9 by a chain rule, and no other one has a cost. */
    private static TreeMatcher withChain() {
        TreeMatcher x = Check.withOperators();
        Check.rule(x, 0, 0, 0);
        Check.rule(x, 15, 9, 32);
        Check.leaf(x, 0);
        return x;
    }

    private static void costOrNone() {
        TreeMatcher x = withChain();
        Check.due("the first nonterminal, for nothing", x.cost(0, 0), 0);
        Check.due("the last nonterminal", x.cost(0, 15), 9);
        for (int n = 1; n < 15; n++) {
            Check.due("none of " + n, x.cost(0, n), N);
        }
    }

    /** Numbers that would wrap into a place that there is, if they were multiplied by 16, among them. */
    private static final int[] NO_NODES = {-1, 1, 2, 199, 200, LEAST, GREATEST, 1 << 28, -(1 << 28), 3 << 28};
    private static final int[] NO_NONTERMINALS = {-1, 16, 17, 32, 47, LEAST, GREATEST, 1 << 28};

    private static void costOfNoNode() {
        TreeMatcher x = withChain();
        for (int node : NO_NODES) {
            Check.wrongIndex("cost(" + node + ", 0)", () -> x.cost(node, 0));
            Check.wrongIndex("cost(" + node + ", 15)", () -> x.cost(node, 15));
        }
        x.clear();
        Check.wrongIndex("without nodes", () -> x.cost(0, 0));
    }

    private static void costOfNoNonterminal() {
        TreeMatcher x = withChain();
        Check.leaf(x, 0);
        for (int n : NO_NONTERMINALS) {
            Check.wrongIndex("cost(0, " + n + ")", () -> x.cost(0, n));
            Check.wrongIndex("cost(1, " + n + ")", () -> x.cost(1, n));
        }
        Check.wrongIndex("neither node nor nonterminal", () -> x.cost(2, 16));
    }

    private static void ruleOrNone() {
        TreeMatcher x = withChain();
        Check.due("the first rule", x.ruleAt(0, 0), 0);
        Check.due("of the last nonterminal", x.ruleAt(0, 15), 1);
        for (int n = 1; n < 15; n++) {
            Check.due("none of " + n, x.ruleAt(0, n), N);
        }
    }

    private static void ruleOfNoLabel() {
        TreeMatcher x = withChain();
        for (int node : NO_NODES) {
            Check.wrongIndex("ruleAt(" + node + ", 0)", () -> x.ruleAt(node, 0));
        }
        for (int n : NO_NONTERMINALS) {
            Check.wrongIndex("ruleAt(0, " + n + ")", () -> x.ruleAt(0, n));
        }
        x.clear();
        Check.wrongIndex("without nodes", () -> x.ruleAt(0, 0));
    }

    private static void coverInPlace() {
        TreeMatcher x = withChain();
        Check.due("two pairs", x.cover(0, 15), 2);
        Check.due("one pair", x.cover(0, 0), 1);
        Check.due("one is there", x.count(5), 1);
        Check.wrongIndex("the second one of before is not", () -> x.pair(1, 0));
        Check.due("two pairs again", x.cover(0, 15), 2);
        Check.due("the second one's rule", x.pair(1, 1), 1);
    }

    private static void coverOfNoLabel() {
        TreeMatcher x = withChain();
        for (int node : NO_NODES) {
            Check.wrongIndex("cover(" + node + ", 0)", () -> x.cover(node, 0));
        }
        for (int n : NO_NONTERMINALS) {
            Check.wrongIndex("cover(0, " + n + ")", () -> x.cover(0, n));
        }
        x.clear();
        Check.wrongIndex("without nodes", () -> x.cover(0, 0));
    }

    private static void coverWithoutCost() {
        TreeMatcher x = withChain();
        for (int n = 1; n < 15; n++) {
            int none = n;
            Check.wrongState("cover(0, " + n + ")", () -> x.cover(0, none));
        }
        Check.above(x, 0, 0);
        Check.wrongState("above what has a cost", () -> x.cover(1, 0));
        Check.due("no cover", x.count(5), 0);
        Check.due("a cost of 0 is one", x.cover(0, 0), 1);
    }

    /** Each node has 16 pairs: its own rule and a chain through all nonterminals. */
    private static TreeMatcher withLongCovers(int nodes) {
        TreeMatcher x = Check.withOperators();
        Check.rule(x, 0, 0, 0);
        Check.rule(x, 0, 99, 1, 47);
        for (int n = 0; n < 15; n++) {
            Check.rule(x, n + 1, 99, 32 + n);
        }
        int top = Check.leaf(x, 0);
        for (int k = 1; k < nodes; k++) {
            top = Check.above(x, 0, top);
        }
        return x;
    }

    private static void coverTooLong() {
        TreeMatcher x = withLongCovers(200);
        Check.due("1,999 pairs", x.cover(124, 14), 1999);
        Check.due("2,000 pairs", x.cover(124, 15), 2000);
        Check.due("the first node", x.pair(0, 0), 0);
        Check.due("the first rule", x.pair(0, 1), 0);
        Check.due("the last node", x.pair(1999, 0), 124);
        Check.due("the last rule", x.pair(1999, 1), 16);
        Check.wrongIndex("no pair behind it", () -> x.pair(2000, 0));
        Check.wrongState("2,001 pairs", () -> x.cover(125, 0));
        Check.wrongState("2,016 pairs", () -> x.cover(125, 15));
        Check.wrongState("3,200 pairs", () -> x.cover(199, 15));
        Check.due("the greatest cost", x.cost(199, 15), 99 * (200 * 15 + 199));
    }

    private static void coverStays() {
        TreeMatcher x = withLongCovers(126);
        x.cover(1, 2);
        int[][] due = new int[19][2];
        for (int k = 0; k < due.length; k++) {
            due[k][0] = x.pair(k, 0);
            due[k][1] = x.pair(k, 1);
        }
        Check.wrongState("2,001 pairs", () -> x.cover(125, 0));
        Check.due("the pairs of the one before", x.count(5), 19);
        for (int k = 0; k < due.length; k++) {
            Check.due("node of pair " + k, x.pair(k, 0), due[k][0]);
            Check.due("rule of pair " + k, x.pair(k, 1), due[k][1]);
        }
        TreeMatcher y = withChain();
        y.cover(0, 15);
        Check.wrongState("no cost", () -> y.cover(0, 1));
        Check.due("both pairs", y.count(5), 2);
        Check.due("the second one's rule", y.pair(1, 1), 1);
    }

    private static void pairs() {
        TreeMatcher x = withChain();
        Check.leaf(x, 0);
        x.cover(1, 15);
        int[][] due = {{1, 0}, {1, 1}};
        for (int k = 0; k < 2; k++) {
            Check.due("node of pair " + k, x.pair(k, 0), due[k][0]);
            Check.due("rule of pair " + k, x.pair(k, 1), due[k][1]);
        }
    }

    private static void noSuchPair() {
        TreeMatcher x = withChain();
        Check.wrongIndex("without a cover", () -> x.pair(0, 0));
        x.cover(0, 15);
        for (int k : new int[] {-1, 2, 3, 1999, 2000, LEAST, GREATEST}) {
            Check.wrongIndex("pair(" + k + ", 0)", () -> x.pair(k, 0));
            Check.wrongIndex("pair(" + k + ", 1)", () -> x.pair(k, 1));
        }
        x.clear();
        Check.wrongIndex("behind clear", () -> x.pair(0, 0));
    }

    private static void noSuchWhat() {
        TreeMatcher x = withChain();
        x.cover(0, 15);
        for (int what : new int[] {-1, 2, 3, LEAST, GREATEST}) {
            Check.wrongIndex("pair(0, " + what + ")", () -> x.pair(0, what));
            Check.wrongIndex("pair(1, " + what + ")", () -> x.pair(1, what));
        }
    }

    private static void nothingBehindClear() {
        TreeMatcher x = withChain();
        Check.above(x, 0, 0);
        x.cover(0, 15);
        x.element(7);
        x.clear();
        int[] counts = {3, 2, 0, 1, 17, 0};
        for (int what = 0; what < counts.length; what++) {
            Check.due("count(" + what + ")", x.count(what), counts[what]);
        }
        Check.wrongIndex("no node", () -> x.cost(0, 0));
        Check.wrongIndex("no vector", () -> x.same(0, 0));
        Check.wrongIndex("no pair", () -> x.pair(0, 0));
        Check.leaf(x, 0);
        Check.wrongIndex("no pair with a new node", () -> x.pair(0, 0));
        Check.due("which no one has as a kid", x.node(1, 0, 0, N), 1);
    }

    private static void clearedNodes() {
        TreeMatcher x = Check.withOperators();
        Check.due("none", x.clear(), 0);
        Check.leaf(x, 0);
        Check.due("one", x.clear(), 1);
        Check.due("none again", x.clear(), 0);
        for (int k = 0; k < 200; k++) {
            Check.leaf(x, 0);
        }
        Check.wrongState("one too many", () -> Check.leaf(x, 0));
        Check.due("all", x.clear(), 200);
        Check.due("none any more", x.clear(), 0);
    }

    private static void counts() {
        TreeMatcher x = Check.withOperators();
        Check.rule(x, 1, 0, 32);
        Check.rule(x, 0, 0, 2, 0, 0);
        Check.tellElements(x, 32, 32, 32, 32);
        for (int k = 0; k < 6; k++) {
            Check.leaf(x, 0);
        }
        x.node(2, 0, 0, 1);
        x.cover(6, 1);
        int[] counts = {3, 2, 7, 4, 19, 2};
        for (int what = 0; what < counts.length; what++) {
            Check.due("count(" + what + ")", x.count(what), counts[what]);
        }
    }

    private static void noSuchCount() {
        TreeMatcher x = withChain();
        for (int what : new int[] {-1, 6, 7, LEAST, GREATEST}) {
            Check.wrongIndex("count(" + what + ")", () -> x.count(what));
        }
    }

    private static void fewestStates() {
        TreeMatcher x = new TreeMatcher();
        Check.due("without operators", x.states(), 0);
        Check.rule(x, 0, 0, 33);
        Check.due("with a chain rule", x.states(), 0);
        x.operator(0, 0);
        Check.due("with a leaf", x.states(), 1);
        Check.due("asked again", x.states(), 1);
        Check.rule(x, 1, 0, 0);
        Check.due("with its rule", x.states(), 1);
        x.operator(1, 1);
        Check.due("with an operator more", x.states(), 2);
        Check.rule(x, 1, 0, 1, 33);
        Check.due("with its rule, where all trees have one", x.states(), 2);
        Check.rule(x, 2, 0, 1, 0);
        Check.due("with a rule that tells trees apart", x.states(), 3);
        Check.leaf(x, 0);
        Check.due("with a node", x.states(), 3);
    }

    private static void statesWithLimits() {
        TreeMatcher x = Check.withOperators();
        Check.limited(x, 0, 0, LEAST, GREATEST, 0);
        Check.due("the least and the greatest int are none", x.states(), 2);
        Check.limited(x, 0, 0, LEAST, GREATEST - 1, 0);
        Check.wrongState("one less at most", x::states);
        Check.wrongState("asked again", x::states);
        Check.limited(x, 0, 0, LEAST, GREATEST, 0);
        Check.wrongState("with a rule behind it that has none", x::states);
        TreeMatcher y = Check.withOperators();
        Check.limited(y, 0, 0, LEAST + 1, GREATEST, 0);
        Check.wrongState("one more at least", y::states);
        TreeMatcher z = new TreeMatcher();
        Check.limited(z, 0, 0, 0, 0, 32);
        Check.wrongState("a chain rule, without any tree", z::states);
    }

    /** 1 costs so much more than 0 at the leaf, and one less with each operator above it, until it costs the same. */
    private static TreeMatcher countdown(int from) {
        TreeMatcher x = new TreeMatcher();
        x.operator(0, 0);
        x.operator(1, 1);
        Check.rule(x, 0, 0, 0);
        Check.rule(x, 1, from, 0);
        Check.rule(x, 0, 1, 1, 32);
        Check.rule(x, 1, 0, 1, 33);
        Check.rule(x, 0, 0, 33);
        return x;
    }

    /** The leaf's state, and one for each distance of the kid: from, .. 1, 0. */
    private static void tooManyStates() {
        Check.due("59 states", countdown(57).states(), 59);
        TreeMatcher x = countdown(58);
        Check.due("60 states", x.states(), 60);
        x.operator(2, 0);
        Check.wrongState("and one where nothing fits", x::states);
        Check.wrongState("asked again", x::states);
        TreeMatcher y = countdown(59);
        Check.wrongState("61 states", y::states);
        Check.wrongState("101 states", countdown(99)::states);
        TreeMatcher z = Check.withOperators();
        for (int o = 3; o < 32; o++) {
            z.operator(o, o % 2);
        }
        for (int o = 3; o < 32; o++) {
            Check.rule(z, 0, 0, o % 2 == 0 ? new int[] {o} : new int[] {o, 32});
        }
        Check.due("29 of an operator each, and the rest", z.states(), 30);
        for (int k = 0; k < 25; k++) {
            Check.rule(z, 1, k, 4);
        }
        Check.due("rules that tell nothing apart", z.states(), 30);
        Check.rule(z, 2, 0, 2, 32, 32);
        Check.rule(z, 3, 0, 2, 34, 32);
        Check.rule(z, 4, 0, 2, 35, 32);
        Check.due("three more", z.states(), 33);
    }

    private static void sameWithoutLimits() {
        TreeMatcher x = Check.withOperators();
        Check.limited(x, 0, 3, 0, 9, 0);
        Check.limited(x, 1, 5, LEAST, LEAST, 1, 32);
        Check.limited(x, 2, 0, GREATEST, GREATEST, 33);
        int[] values = {0, 9, -1, 10, LEAST, GREATEST};
        for (int k = 0; k < values.length; k++) {
            Check.leaf(x, values[k]);
        }
        for (int k = 0; k < values.length; k++) {
            Check.above(x, values[k], k);
        }
        for (int k = 1; k < values.length; k++) {
            Check.due("leaves of values 0 and " + values[k], x.same(0, k), true);
            Check.due("one above them", x.same(values.length, values.length + k), true);
        }
        Check.due("though one has a cost", x.cost(1, 0), 3);
        Check.due("and the other has none", x.cost(2, 0), N);
        Check.due("a leaf, and what stands above it", x.same(0, values.length), false);
        TreeMatcher y = Check.withOperators();
        y.operator(3, 0);
        Check.limited(y, 1, 0, 7, 7, 0);
        Check.limited(y, 2, 0, 8, 8, 1, 33);
        Check.above(y, 0, Check.leaf(y, 0));
        Check.above(y, 0, y.node(3, 0, N, N));
        Check.due("no cost by limits", y.cost(1, 2), N);
        Check.due("and none without a rule", y.cost(3, 2), N);
        Check.due("these are not the same", y.same(1, 3), false);
    }

    private static void sameOfNoNode() {
        TreeMatcher x = Check.withOperators();
        Check.wrongIndex("without nodes", () -> x.same(0, 0));
        Check.leaf(x, 0);
        Check.due("one node and itself", x.same(0, 0), true);
        for (int node : NO_NODES) {
            Check.wrongIndex("same(0, " + node + ")", () -> x.same(0, node));
            Check.wrongIndex("same(" + node + ", 0)", () -> x.same(node, 0));
            Check.wrongIndex("same(" + node + ", " + node + ")", () -> x.same(node, node));
        }
        x.clear();
        Check.wrongIndex("without nodes any more", () -> x.same(0, 0));
    }
}
