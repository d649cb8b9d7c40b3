/** The sentences of 'What it is' and 'Terms' that name a boundary case, one test each. */
public final class TermsBoundsTest {
    private static final int N = TreeMatcher.NONE;
    private static final int LEAST = Check.LEAST;
    private static final int GREATEST = Check.GREATEST;

    public static void main(String[] args) {
        Check.sentence("An object is used for at most 512 calls after it has been made", TermsBoundsTest::lastCall);
        Check.sentence("OPERATORS 0 .. 31 have 0, 1 or 2 KIDS.", TermsBoundsTest::operators);
        Check.sentence("NONTERMINALS are 0 .. 15.", TermsBoundsTest::nonterminals);
        Check.sentence("A PATTERN is a nonterminal, or an operator with as many patterns as it has kids",
                TermsBoundsTest::patterns);
        Check.sentence("it is told element by element, itself ahead of its kids, the first kid first",
                TermsBoundsTest::orderOfElements);
        Check.sentence("an element is an operator's number, or 32 + n for nonterminal n", TermsBoundsTest::elements);
        Check.sentence("a COST 0 .. 99", TermsBoundsTest::costs);
        Check.sentence("its number is how many came before", TermsBoundsTest::ruleNumbers);
        Check.sentence("A CHAIN rule's pattern is a nonterminal.", TermsBoundsTest::chainRules);
        Check.sentence("a VALUE (an int)", TermsBoundsTest::values);
        Check.sentence("kids, nodes that were there before", TermsBoundsTest::kidsThereBefore);
        Check.sentence("and are no kid of another one", TermsBoundsTest::kidsOfOne);
        Check.sentence("a nonterminal for that of the nonterminal at the node (if there is one)",
                TermsBoundsTest::nonterminalsThatFit);
        Check.sentence("an operator if it is the node's, and the kids' patterns fit at the node's kids",
                TermsBoundsTest::operatorsThatFit);
        Check.sentence("the sum of their costs", TermsBoundsTest::sums);
        Check.sentence("of a rule that is no chain rule", TermsBoundsTest::limitsOfChainRules);
        Check.sentence("the node at which the LAST operator of its pattern (by elements) stands",
                TermsBoundsTest::lastOperators);
        Check.sentence("within its limits (the first one at least, the second one at most)",
                TermsBoundsTest::limits);
        Check.sentence("When a node is made, each nonterminal has no cost there.", TermsBoundsTest::noCostAtFirst);
        Check.sentence("if one fits for a cost and what it gives has none, or a greater one",
                TermsBoundsTest::lesserCosts);
        Check.sentence("and then at once: all chain rules whose pattern is this nonterminal",
                TermsBoundsTest::chainsAtOnce);
        Check.sentence("by their numbers, likewise", TermsBoundsTest::chainsLikewise);
        Check.sentence("(and behind each of these that does so all those of what it gives, at once)",
                TermsBoundsTest::chainsBehindChains);
        Check.sentence("at the nodes where they stand (of a chain rule at the node itself)",
                TermsBoundsTest::coverOfChains);
        Check.sentence("then the node and the rule", TermsBoundsTest::coverOfOnePair);
        Check.sentence("without rules with limits (all have the least and the greatest int)",
                TermsBoundsTest::statesWithoutLimits);
        Check.sentence("the PARTS are all nonterminals, and all patterns of rules, and in them, that are operators",
                TermsBoundsTest::parts);
        Check.sentence("(each for itself, also those that are alike)", TermsBoundsTest::partsThatAreAlike);
        Check.sentence("for which cost each part fits at its root, or that it doesn't",
                TermsBoundsTest::vectorsOfNothing);
        Check.sentence("less the least of all these costs", TermsBoundsTest::lessTheLeast);
        Check.sentence("any trees of the operators that there are", TermsBoundsTest::treesThatThereAre);
        Check.sentence("(also deeper than nodes could be)", TermsBoundsTest::treesBeyondNodes);
        Check.sentence("vectors that differ are two states", TermsBoundsTest::vectorsThatDiffer);
        Check.sentence("`NONE = -1`: Nothing there.", TermsBoundsTest::none);
        Check.end();
    }

    /** 32 operators, 64 rules of one element, 200 nodes and 151 questions are 511 calls. */
    private static void lastCall() {
        TreeMatcher x = new TreeMatcher();
        for (int o = 0; o < 32; o++) {
            Check.due("operator " + o, x.operator(o, o == 31 ? 1 : 0), o + 1);
        }
        for (int r = 0; r < 64; r++) {
            Check.due("rule " + r, Check.rule(x, r % 16, r, r % 31), r);
        }
        for (int k = 0; k < 200; k++) {
            Check.due("node " + k, x.node(k % 31, k, N, N), k);
        }
        for (int k = 49; k < 200; k++) {
            int o = k % 31;
            Check.due("cost at node " + k, x.cost(k, o % 16), o);
        }
        Check.due("the 512th call", x.cover(199, 199 % 31), 1);
    }

    private static void operators() {
        for (int number : new int[] {0, 31}) {
            for (int kids = 0; kids <= 2; kids++) {
                TreeMatcher x = new TreeMatcher();
                x.operator(15, 0);
                Check.rule(x, 0, 1, 15);
                Check.due("operator(" + number + ", " + kids + ")", x.operator(number, kids), 2);
                x.element(number);
                for (int k = 0; k < kids; k++) {
                    x.element(32);
                }
                Check.due("its rule", x.rule(1, 1, LEAST, GREATEST), 1);
                int left = kids > 0 ? x.node(15, 0, N, N) : N;
                int right = kids > 1 ? x.node(15, 0, N, N) : N;
                int node = x.node(number, 0, left, right);
                Check.due("its node", node, kids);
                Check.due("its cost", x.cost(node, 1), 1 + kids);
            }
        }
    }

    private static void nonterminals() {
        for (int n : new int[] {0, 15}) {
            TreeMatcher x = Check.withOperators();
            Check.rule(x, n, 3, 0);
            Check.rule(x, 15 - n, 4, 32 + n);
            Check.rule(x, n, 5, 1, 47 - n);
            Check.leaf(x, 0);
            Check.above(x, 0, 0);
            Check.due("cost of " + n, x.cost(0, n), 3);
            Check.due("rule of " + n, x.ruleAt(0, n), 0);
            Check.due("cost of " + (15 - n), x.cost(0, 15 - n), 7);
            Check.due("cost of " + n + " above", x.cost(1, n), 12);
            Check.due("cover of " + n + " above", x.cover(1, n), 3);
            Check.wrongIndex("cost of 16", () -> x.cost(0, 16));
            Check.wrongIndex("cost of -1", () -> x.cost(1, -1));
        }
    }

    private static void patterns() {
        int[][] good = {{0}, {32}, {47}, {1, 0}, {1, 47}, {2, 0, 32}, {2, 2, 0, 0, 1, 32},
            {1, 1, 1, 1, 1, 1, 1, 1, 1, 1, 1, 0}, {1, 1, 1, 1, 1, 1, 1, 1, 1, 1, 1, 32},
            {2, 2, 2, 2, 2, 0, 0, 0, 0, 0, 0}, {2, 0, 2, 0, 2, 0, 2, 0, 2, 0, 1, 0}};
        int[][] wrong = {{}, {1}, {2}, {2, 0}, {2, 32}, {0, 0}, {32, 32}, {0, 32}, {32, 0}, {1, 0, 0}, {1, 1},
            {0, 1}, {0, 1, 0}, {32, 1}, {0, 2, 32}, {32, 2, 33}, {1, 0, 2, 0},
            {2, 0, 0, 0}, {2, 2, 0, 0}, {2, 1, 0}, {2, 1, 1}, {2, 2, 0, 0, 0, 0},
            {1, 1, 1, 1, 1, 1, 1, 1, 1, 1, 1, 1}, {1, 1, 1, 1, 1, 1, 1, 1, 1, 1, 0, 0},
            {2, 2, 2, 2, 2, 2, 2, 2, 2, 2, 2, 2}, {2, 2, 2, 2, 2, 0, 0, 0, 0, 0, 0, 0},
            {32, 32, 32, 32, 32, 32, 32, 32, 32, 32, 32, 32}, {2, 2, 2, 2, 2, 2, 0, 0, 0, 0, 0, 0}};
        TreeMatcher x = Check.withOperators();
        for (int k = 0; k < good.length; k++) {
            Check.due("pattern " + k, Check.rule(x, 0, 0, good[k]), k);
        }
        for (int k = 0; k < wrong.length; k++) {
            int[] elements = wrong[k];
            Check.wrongArgument("no pattern " + k, () -> Check.rule(x, 0, 0, elements));
        }
        Check.due("rules", x.count(1), good.length);
    }

    /** 2 above 1 above 0, and 1: fits where the first kid is the operator 1, and not where the second one is. */
    private static void orderOfElements() {
        TreeMatcher x = Check.withOperators();
        x.operator(3, 0);
        Check.rule(x, 0, 1, 0);
        Check.rule(x, 1, 2, 3);
        Check.rule(x, 2, 4, 2, 1, 32, 33);
        Check.leaf(x, 0);
        Check.above(x, 0, 0);
        x.node(3, 0, N, N);
        x.node(2, 0, 1, 2);
        Check.due("as it was told", x.cost(3, 2), 7);
        x.clear();
        Check.leaf(x, 0);
        Check.above(x, 0, 0);
        x.node(3, 0, N, N);
        x.node(2, 0, 2, 1);
        Check.due("the kids the other way round", x.cost(3, 2), N);
    }

    private static void elements() {
        TreeMatcher x = new TreeMatcher();
        x.operator(31, 0);
        Check.due("31 is operator 31", Check.rule(x, 0, 1, 31), 0);
        Check.due("and a part", x.count(4), 17);
        Check.due("32 is nonterminal 0", Check.rule(x, 15, 1, 32), 1);
        Check.due("47 is nonterminal 15", Check.rule(x, 1, 1, 47), 2);
        Check.due("and both no new parts", x.count(4), 17);
        x.node(31, 0, N, N);
        Check.due("from operator 31", x.cost(0, 0), 1);
        Check.due("from nonterminal 0", x.cost(0, 15), 2);
        Check.due("from nonterminal 15", x.cost(0, 1), 3);
    }

    private static void costs() {
        TreeMatcher x = Check.withOperators();
        Check.due("cost 0", Check.rule(x, 0, 0, 0), 0);
        Check.due("cost 99", Check.rule(x, 1, 99, 0), 1);
        Check.due("cost 0 of a chain rule", Check.rule(x, 2, 0, 32), 2);
        Check.due("cost 99 of a chain rule", Check.rule(x, 3, 99, 33), 3);
        x.element(0);
        Check.wrongArgument("cost -1", () -> x.rule(4, -1, LEAST, GREATEST));
        x.element(0);
        Check.wrongArgument("cost 100", () -> x.rule(4, 100, LEAST, GREATEST));
        Check.leaf(x, 0);
        int[] due = {0, 99, 0, 198, N};
        for (int n = 0; n < due.length; n++) {
            Check.due("cost of " + n, x.cost(0, n), due[n]);
        }
    }

    private static void ruleNumbers() {
        TreeMatcher x = Check.withOperators();
        for (int r = 0; r < 64; r++) {
            if (r % 8 == 0) {
                Check.wrongArgument("a wrong one ahead of rule " + r, () -> x.rule(0, 0, 0, 0));
            }
            Check.due("rule " + r, Check.rule(x, 0, 99 - r, r % 2 == 0 ? 0 : 33), r);
        }
        Check.leaf(x, 0);
        Check.due("the last rule that is no chain rule", x.ruleAt(0, 0), 62);
    }

    /** Also one that gives its own pattern, for nothing: it is never less. */
    private static void chainRules() {
        TreeMatcher x = Check.withOperators();
        Check.due("a chain rule ahead of all", Check.rule(x, 5, 1, 36), 0);
        Check.due("one that gives its own pattern", Check.rule(x, 4, 0, 36), 1);
        Check.due("a rule", Check.rule(x, 4, 7, 0), 2);
        Check.leaf(x, 0);
        Check.due("cost of 4", x.cost(0, 4), 7);
        Check.due("rule of 4", x.ruleAt(0, 4), 2);
        Check.due("cost of 5", x.cost(0, 5), 8);
        Check.due("rule of 5", x.ruleAt(0, 5), 0);
        Check.due("cover of 4", x.cover(0, 4), 1);
    }

    private static void values() {
        TreeMatcher x = Check.withOperators();
        Check.limited(x, 0, 0, LEAST, LEAST, 0);
        Check.limited(x, 1, 0, GREATEST, GREATEST, 0);
        Check.limited(x, 2, 0, N, N, 0);
        int[] values = {LEAST, GREATEST, N};
        for (int k = 0; k < values.length; k++) {
            Check.due("a node of value " + values[k], Check.leaf(x, values[k]), k);
            for (int n = 0; n < 3; n++) {
                Check.due("cost of " + n + " there", x.cost(k, n), n == k ? 0 : N);
            }
        }
    }

    private static void kidsThereBefore() {
        TreeMatcher x = Check.withOperators();
        Check.wrongArgument("a kid without any nodes", () -> x.node(1, 0, 0, N));
        Check.due("a leaf", Check.leaf(x, 0), 0);
        Check.wrongArgument("its own number", () -> x.node(1, 0, 1, N));
        Check.wrongArgument("its own number, second", () -> x.node(2, 0, 0, 1));
        Check.wrongArgument("its own number, first", () -> x.node(2, 0, 1, 0));
        Check.wrongArgument("the number behind its own", () -> x.node(1, 0, 2, N));
        Check.wrongArgument("-2", () -> x.node(1, 0, -2, N));
        Check.wrongArgument("the greatest int", () -> x.node(1, 0, GREATEST, N));
        Check.wrongArgument("the least int", () -> x.node(1, 0, LEAST, N));
        Check.due("the last number there is", x.node(1, 0, 0, N), 1);
        x.clear();
        Check.wrongArgument("a number from before clear", () -> x.node(1, 0, 0, N));
    }

    private static void kidsOfOne() {
        TreeMatcher x = Check.withOperators();
        Check.leaf(x, 0);
        Check.leaf(x, 0);
        Check.leaf(x, 0);
        Check.wrongArgument("both kids the same", () -> x.node(2, 0, 0, 0));
        Check.due("first and second", x.node(2, 0, 0, 1), 3);
        int[][] wrong = {{1, 0, N}, {1, 1, N}, {2, 0, 2}, {2, 2, 0}, {2, 1, 2}, {2, 2, 1}, {2, 0, 1}, {2, 1, 0}};
        for (int[] w : wrong) {
            Check.wrongArgument("node(" + w[0] + ", 0, " + w[1] + ", " + w[2] + ")",
                    () -> x.node(w[0], 0, w[1], w[2]));
        }
        Check.due("what is no kid yet", x.node(2, 0, 3, 2), 4);
        Check.due("the only kid", x.node(1, 0, 4, N), 5);
        Check.wrongArgument("a kid of one with one kid", () -> x.node(1, 0, 4, N));
    }

    /** A cost of 0 is one; no cost is none, also as one of two kids. */
    private static void nonterminalsThatFit() {
        TreeMatcher x = Check.withOperators();
        Check.rule(x, 0, 0, 0);
        Check.rule(x, 2, 0, 1, 32);
        Check.rule(x, 3, 5, 1, 33);
        Check.rule(x, 4, 5, 2, 32, 33);
        Check.rule(x, 5, 5, 2, 33, 32);
        Check.rule(x, 6, 0, 2, 32, 32);
        Check.rule(x, 7, 5, 33);
        Check.leaf(x, 0);
        Check.above(x, 0, 0);
        Check.leaf(x, 0);
        Check.leaf(x, 0);
        x.node(2, 0, 2, 3);
        Check.due("for nothing", x.cost(1, 2), 0);
        Check.due("without a cost", x.cost(1, 3), N);
        Check.due("without a cost of the second kid", x.cost(4, 4), N);
        Check.due("without a cost of the first kid", x.cost(4, 5), N);
        Check.due("both for nothing", x.cost(4, 6), 0);
        Check.due("a chain rule without a cost", x.cost(0, 7), N);
    }

    private static void operatorsThatFit() {
        TreeMatcher x = Check.withOperators();
        x.operator(3, 1);
        Check.rule(x, 0, 1, 0);
        Check.rule(x, 1, 1, 1, 1, 0);
        Check.rule(x, 2, 1, 1, 3, 0);
        Check.leaf(x, 0);
        Check.above(x, 0, 0);
        Check.above(x, 0, 1);
        Check.above(x, 0, 2);
        Check.due("at a leaf", x.cost(0, 1), N);
        Check.due("a leaf where an operator should be", x.cost(1, 1), N);
        Check.due("the very tree", x.cost(2, 1), 1);
        Check.due("one deeper", x.cost(3, 1), N);
        Check.due("another operator with one kid", x.cost(2, 2), N);
        Check.due("another operator at the root", x.cost(1, 0), N);
    }

    /** The most elements with two kids each: 5 operators above 6 nonterminals; and without any kid the sum is 0. */
    private static void sums() {
        TreeMatcher x = Check.withOperators();
        Check.rule(x, 0, 99, 0);
        Check.rule(x, 1, 99, 2, 2, 2, 2, 2, 32, 32, 32, 32, 32, 32);
        Check.rule(x, 2, 0, 0);
        Check.rule(x, 3, 7, 1, 1, 1, 1, 1, 1, 1, 1, 1, 1, 1, 0);
        int root = Check.leaf(x, 0);
        for (int k = 0; k < 5; k++) {
            root = x.node(2, 0, root, Check.leaf(x, 0));
        }
        Check.due("6 kids", x.cost(root, 1), 6 * 99 + 99);
        Check.due("no kids", x.cost(0, 2), 0);
        int top = Check.leaf(x, 0);
        for (int k = 0; k < 11; k++) {
            top = Check.above(x, 0, top);
        }
        Check.due("12 elements without a nonterminal", x.cost(top, 3), 7);
    }

    private static void limitsOfChainRules() {
        TreeMatcher x = Check.withOperators();
        Check.rule(x, 0, 1, 0);
        Check.limited(x, 1, 2, 5, 6, 32);
        Check.limited(x, 2, 2, LEAST, LEAST, 33);
        Check.leaf(x, 100);
        Check.due("a chain rule outside of its limits", x.cost(0, 1), 3);
        Check.due("and one behind it", x.cost(0, 2), 5);
    }

    private static void lastOperators() {
        int[][] patterns = {{2, 32, 32}, {2, 0, 32}, {2, 32, 0}, {2, 0, 0}, {2, 1, 32, 32}, {2, 1, 0, 32},
            {2, 1, 0, 1, 32}};
        int[] lasts = {4, 1, 3, 3, 1, 0, 3};
        boolean[][] unary = {{false, false}, {false, false}, {false, false}, {false, false}, {true, false},
            {true, false}, {true, true}};
        for (int k = 0; k < patterns.length; k++) {
            TreeMatcher x = Check.withOperators();
            Check.rule(x, 0, 0, 0);
            Check.limited(x, 1, 0, 7, 7, patterns[k]);
            for (int last = 0; last < 5; last++) {
                x.clear();
                int root = twoKids(x, unary[k], last);
                Check.due("pattern " + k + ", value at place " + last, x.cost(root, 1), last == lasts[k] ? 0 : N);
            }
        }
    }

    /** Places: 0 below the first kid, 1 the first kid, 2 below the second one, 3 the second one, 4 the root. */
    private static int twoKids(TreeMatcher x, boolean[] unary, int marked) {
        int[] kids = new int[2];
        for (int k = 0; k < 2; k++) {
            int low = marked == 2 * k ? 7 : 8;
            int high = marked == 2 * k + 1 ? 7 : 8;
            kids[k] = unary[k] ? Check.above(x, high, Check.leaf(x, low)) : Check.leaf(x, high);
        }
        return x.node(2, marked == 4 ? 7 : 8, kids[0], kids[1]);
    }

    /** Also where the distance of a value from a limit is beyond an int. */
    private static void limits() {
        int[][] limits = {{-3, 4}, {5, 5}, {LEAST, LEAST}, {GREATEST, GREATEST}, {LEAST, -1}, {0, GREATEST},
            {LEAST + 1, GREATEST - 1}, {LEAST, GREATEST}};
        int[] values = {LEAST, LEAST + 1, -4, -3, -1, 0, 4, 5, 6, GREATEST - 1, GREATEST};
        for (int[] l : limits) {
            TreeMatcher x = Check.withOperators();
            Check.limited(x, 0, 1, l[0], l[1], 0);
            for (int k = 0; k < values.length; k++) {
                Check.leaf(x, values[k]);
                boolean within = (long) l[0] <= values[k] && values[k] <= (long) l[1];
                Check.due("limits " + l[0] + ", " + l[1] + ", value " + values[k], x.cost(k, 0), within ? 1 : N);
            }
        }
    }

    private static void noCostAtFirst() {
        TreeMatcher x = Check.withOperators();
        for (int n = 0; n < 16; n++) {
            Check.rule(x, n, n, 0);
        }
        Check.leaf(x, 0);
        Check.due("a leaf's cost of 15", x.cost(0, 15), 15);
        Check.above(x, 0, 0);
        for (int n = 0; n < 16; n++) {
            Check.due("no cost of " + n + " behind a node with one", x.cost(1, n), N);
            Check.due("no rule of " + n + " behind a node with one", x.ruleAt(1, n), N);
        }
        x.clear();
        x.operator(3, 0);
        x.node(3, 0, N, N);
        for (int n = 0; n < 16; n++) {
            Check.due("no cost of " + n + " where a node with one was", x.cost(0, n), N);
            Check.due("no rule of " + n + " where a node with one was", x.ruleAt(0, n), N);
        }
    }

    private static void lesserCosts() {
        int[][] costs = {{5, 5}, {5, 4}, {5, 6}, {0, 0}, {1, 0}, {99, 98}, {98, 99}};
        for (int[] c : costs) {
            TreeMatcher x = Check.withOperators();
            Check.rule(x, 0, c[0], 0);
            Check.rule(x, 0, c[1], 0);
            Check.leaf(x, 0);
            boolean second = c[1] < c[0];
            Check.due("cost by " + c[0] + ", then " + c[1], x.cost(0, 0), second ? c[1] : c[0]);
            Check.due("rule by " + c[0] + ", then " + c[1], x.ruleAt(0, 0), second ? 1 : 0);
        }
    }

    /** At once: ahead of the rules that come later, whose costs are equal; so the chain rule has the label. */
    private static void chainsAtOnce() {
        TreeMatcher x = Check.withOperators();
        Check.rule(x, 0, 2, 0);
        Check.rule(x, 1, 3, 0);
        Check.rule(x, 1, 1, 32);
        Check.leaf(x, 0);
        Check.due("the chain rule came first", x.ruleAt(0, 1), 2);
        TreeMatcher y = Check.withOperators();
        Check.rule(y, 1, 1, 32);
        Check.rule(y, 1, 3, 0);
        Check.rule(y, 0, 2, 0);
        Check.leaf(y, 0);
        Check.due("the other one came first", y.ruleAt(0, 1), 1);
        TreeMatcher z = Check.withOperators();
        Check.rule(z, 0, 5, 0);
        Check.rule(z, 1, 1, 32);
        Check.rule(z, 0, 4, 0);
        Check.leaf(z, 0);
        Check.due("again with each lesser cost", z.cost(0, 1), 5);
    }

    private static void chainsLikewise() {
        int[][] costs = {{5, 5}, {5, 4}, {5, 6}, {0, 0}, {1, 0}};
        for (int[] c : costs) {
            TreeMatcher x = Check.withOperators();
            Check.rule(x, 1, c[0], 32);
            Check.rule(x, 1, c[1], 32);
            Check.rule(x, 0, 0, 0);
            Check.leaf(x, 0);
            boolean second = c[1] < c[0];
            Check.due("cost by " + c[0] + ", then " + c[1], x.cost(0, 1), second ? c[1] : c[0]);
            Check.due("rule by " + c[0] + ", then " + c[1], x.ruleAt(0, 1), second ? 1 : 0);
        }
    }

    /** Through all nonterminals and back to the first; ahead of the chain rules that wait at the one before. */
    private static void chainsBehindChains() {
        TreeMatcher x = Check.withOperators();
        for (int n = 0; n < 16; n++) {
            Check.rule(x, (n + 1) % 16, 99, 32 + n);
        }
        Check.rule(x, 0, 99, 0);
        Check.leaf(x, 0);
        for (int n = 0; n < 16; n++) {
            Check.due("cost of " + n, x.cost(0, n), 99 * (n + 1));
            Check.due("rule of " + n, x.ruleAt(0, n), n == 0 ? 16 : n - 1);
        }
        TreeMatcher y = Check.withOperators();
        Check.rule(y, 1, 1, 32);
        Check.rule(y, 2, 2, 32);
        Check.rule(y, 2, 1, 33);
        Check.rule(y, 0, 0, 0);
        Check.leaf(y, 0);
        Check.due("behind the first one at once", y.ruleAt(0, 2), 2);
        TreeMatcher z = Check.withOperators();
        for (int n = 0; n < 16; n++) {
            Check.rule(z, (n + 1) % 16, 0, 32 + n);
        }
        Check.rule(z, 7, 0, 0);
        Check.leaf(z, 0);
        Check.due("a circle for nothing ends", z.ruleAt(0, 7), 16);
        Check.due("behind the last one of it", z.cover(0, 6), 16);
    }

    private static void coverOfChains() {
        TreeMatcher x = Check.withOperators();
        for (int n = 0; n < 15; n++) {
            Check.rule(x, n + 1, 0, 32 + n);
        }
        Check.rule(x, 0, 0, 0);
        Check.leaf(x, 0);
        Check.leaf(x, 0);
        Check.due("16 pairs", x.cover(1, 15), 16);
        for (int k = 0; k < 16; k++) {
            Check.due("node of pair " + k, x.pair(k, 0), 1);
            Check.due("rule of pair " + k, x.pair(k, 1), k == 0 ? 15 : k - 1);
        }
    }

    private static void coverOfOnePair() {
        TreeMatcher x = Check.withOperators();
        Check.rule(x, 3, 0, 2, 0, 0);
        Check.leaf(x, 0);
        Check.leaf(x, 0);
        x.node(2, 0, 0, 1);
        Check.due("a pattern without a nonterminal", x.cover(2, 3), 1);
        Check.due("the node", x.pair(0, 0), 2);
        Check.due("the rule", x.pair(0, 1), 0);
    }

    private static void statesWithoutLimits() {
        int[][] limits = {{LEAST, GREATEST - 1}, {LEAST + 1, GREATEST}, {LEAST, LEAST}, {GREATEST, GREATEST}, {0, 0}};
        for (int[] l : limits) {
            for (int element : new int[] {0, 32}) {
                TreeMatcher x = Check.withOperators();
                Check.rule(x, 0, 0, 0);
                Check.due("without limits", x.states(), 2);
                Check.limited(x, 1, 0, l[0], l[1], element);
                Check.wrongState("limits " + l[0] + ", " + l[1] + " of " + element, x::states);
                Check.rule(x, 0, 0, 0);
                Check.wrongState("and a rule without limits behind it", x::states);
            }
        }
    }

    private static void parts() {
        TreeMatcher x = Check.withOperators();
        Check.due("without rules", x.count(4), 16);
        Check.rule(x, 0, 0, 47);
        Check.due("a chain rule", x.count(4), 16);
        Check.rule(x, 0, 0, 0);
        Check.due("one operator", x.count(4), 17);
        Check.rule(x, 0, 0, 2, 32, 33);
        Check.due("one operator with nonterminals", x.count(4), 18);
        Check.rule(x, 0, 0, 1, 1, 1, 1, 1, 1, 1, 1, 1, 1, 1, 0);
        Check.due("12 operators", x.count(4), 30);
        x.element(0);
        Check.due("a pattern at hand is none", x.count(4), 30);
        Check.wrongArgument("a wrong rule", () -> x.rule(16, 0, 0, 0));
        Check.due("nor is that of a wrong rule", x.count(4), 30);
        Check.leaf(x, 0);
        x.clear();
        Check.due("nor do nodes matter", x.count(4), 30);
    }

    private static void partsThatAreAlike() {
        TreeMatcher x = Check.withOperators();
        for (int k = 1; k <= 40; k++) {
            Check.rule(x, 0, 0, 2, 1, 32, 1, 32);
            Check.due(k + " rules that are alike", x.count(4), 16 + 3 * k);
        }
        Check.rule(x, 0, 0, 0);
        Check.due("states: the leaf, 1 above it, 2 above two of these, and the rest", x.states(), 4);
    }

    private static void vectorsOfNothing() {
        TreeMatcher x = Check.withOperators();
        x.operator(3, 0);
        Check.due("without rules all trees are alike", x.states(), 1);
        Check.rule(x, 0, 0, 0);
        Check.due("what fits for nothing, and what doesn't", x.states(), 2);
        Check.leaf(x, 0);
        x.node(3, 0, N, N);
        Check.above(x, 0, 0);
        Check.due("for nothing, or not at all", x.same(0, 1), false);
        Check.due("not at all under two operators", x.same(1, 2), true);
        TreeMatcher y = Check.withOperators();
        Check.rule(y, 0, 0, 2, 32, 32);
        Check.due("rules of which none ever fits", y.states(), 1);
    }

    /** 0 and 1 at the leaf cost 5 and 9; each operator above adds 99 to both. */
    private static void lessTheLeast() {
        TreeMatcher x = Check.withOperators();
        Check.rule(x, 0, 5, 0);
        Check.rule(x, 1, 9, 0);
        Check.rule(x, 0, 99, 1, 32);
        Check.rule(x, 1, 99, 1, 33);
        Check.due("states: the leaf, 1 above others, and 2", x.states(), 3);
        int top = Check.leaf(x, 0);
        for (int k = 0; k < 199; k++) {
            top = Check.above(x, 0, top);
        }
        Check.due("a great cost", x.cost(top, 0), 5 + 199 * 99);
        Check.due("one above the leaf, and as many as there may be", x.same(1, top), true);
        Check.due("the leaf, and one above it", x.same(0, 1), false);
        TreeMatcher y = Check.withOperators();
        y.operator(3, 0);
        for (int n = 0; n < 15; n++) {
            Check.rule(y, n + 1, 99, 32 + n);
        }
        Check.rule(y, 0, 99, 0);
        Check.rule(y, 15, 0, 3);
        Check.rule(y, 0, 0, 1, 47);
        Check.above(y, 0, Check.leaf(y, 0));
        Check.above(y, 0, y.node(3, 0, N, N));
        Check.due("the greatest cost of a leaf", y.cost(1, 0), 16 * 99);
        Check.due("the least cost of a leaf", y.cost(3, 0), 0);
        Check.due("above these", y.same(1, 3), true);
        Check.due("states: two leaves, 1 above them, and 2", y.states(), 4);
    }

    private static void treesThatThereAre() {
        TreeMatcher x = new TreeMatcher();
        Check.due("no operators", x.states(), 0);
        x.operator(31, 2);
        x.operator(30, 1);
        Check.rule(x, 0, 0, 31, 32, 32);
        Check.rule(x, 0, 0, 30, 32);
        Check.due("no operator without kids", x.states(), 0);
        x.operator(0, 0);
        Check.due("one that fits nowhere", x.states(), 1);
        x.operator(29, 0);
        Check.rule(x, 0, 0, 29);
        Check.due("29, 30 and 31 above it, and the rest", x.states(), 4);
    }

    /** n + 1 stands above two of n: the least tree with 15 has 65,535 nodes. */
    private static void treesBeyondNodes() {
        TreeMatcher x = Check.withOperators();
        Check.rule(x, 0, 0, 0);
        for (int n = 0; n < 15; n++) {
            Check.rule(x, n + 1, 0, 2, 32 + n, 32 + n);
        }
        Check.due("one state for each nonterminal, and the rest", x.states(), 17);
    }

    /** Two leaves that differ in one part, by one or by nothing; two of the same operator that differ by one. */
    private static void vectorsThatDiffer() {
        TreeMatcher x = Check.withOperators();
        x.operator(3, 0);
        Check.rule(x, 0, 7, 0);
        Check.rule(x, 0, 7, 3);
        Check.due("leaves with the same costs have two patterns", x.states(), 3);
        Check.leaf(x, 0);
        x.node(3, 0, N, N);
        Check.due("and are not the same", x.same(0, 1), false);
        x.clear();
        Check.rule(x, 1, 1, 1, 32);
        Check.due("1 above either of them", x.states(), 4);
        Check.rule(x, 2, 8, 3);
        Check.rule(x, 2, 9, 0);
        Check.rule(x, 3, 0, 1, 34);
        Check.due("1 above one that costs one more", x.states(), 5);
        Check.leaf(x, 0);
        x.node(3, 0, N, N);
        Check.above(x, 0, 0);
        Check.above(x, 0, 1);
        Check.due("these are not the same", x.same(2, 3), false);
    }

    private static void none() {
        Check.due("NONE", TreeMatcher.NONE, -1);
        TreeMatcher x = Check.withOperators();
        Check.due("a leaf has no kids", x.node(0, 0, -1, -1), 0);
        Check.due("no second kid", x.node(1, 0, 0, -1), 1);
        Check.due("no cost", x.cost(1, 0), -1);
        Check.due("no rule", x.ruleAt(1, 0), -1);
    }
}
