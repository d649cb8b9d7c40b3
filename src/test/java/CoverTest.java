/** Promises 8, 9, 12 and 13: cover, pair, clear, count. */
public final class CoverTest {
    private static final int N = TreeMatcher.NONE;

    public static void main(String[] args) {
        order();
        wrongCovers();
        mostPairs();
        clear();
        count();
        Check.end();
    }

    /** 0 is a leaf, 1 comes of 0; 2 is what stands above two of 1. */
    private static TreeMatcher small() {
        TreeMatcher x = new TreeMatcher();
        x.operator(4, 0);
        x.operator(5, 2);
        Check.rule(x, 0, 1, 4);
        Check.rule(x, 1, 1, 32);
        Check.rule(x, 2, 1, 5, 33, 33);
        x.node(4, 0, N, N);
        x.node(4, 0, N, N);
        x.node(5, 0, 1, 0);
        return x;
    }

    private static void duePairs(String name, TreeMatcher x, int[][] pairs) {
        Check.due(name + ": pairs", x.count(5), pairs.length);
        for (int k = 0; k < pairs.length; k++) {
            Check.due(name + ": node of pair " + k, x.pair(k, 0), pairs[k][0]);
            Check.due(name + ": rule of pair " + k, x.pair(k, 1), pairs[k][1]);
        }
    }

    private static void order() {
        TreeMatcher x = small();
        Check.due("cover(2, 2)", x.cover(2, 2), 5);
        int[][] whole = {{1, 0}, {1, 1}, {0, 0}, {0, 1}, {2, 2}};
        duePairs("kids first, the first one first", x, whole);
        int[][] wrong = {{-1, 0}, {5, 0}, {0, -1}, {0, 2}, {Check.LEAST, 0}, {Check.GREATEST, 1}, {0, Check.LEAST},
            {1999, 0}, {2000, 1}};
        for (int[] w : wrong) {
            Check.wrongIndex("pair(" + w[0] + ", " + w[1] + ")", () -> x.pair(w[0], w[1]));
        }
        Check.due("cover(0, 1)", x.cover(0, 1), 2);
        duePairs("in place of the one before", x, new int[][] {{0, 0}, {0, 1}});
        Check.wrongIndex("a pair of the one before", () -> x.pair(2, 0));
        Check.due("a node more", x.node(4, 0, N, N), 3);
        duePairs("it stays with more nodes", x, new int[][] {{0, 0}, {0, 1}});
    }

    private static void wrongCovers() {
        TreeMatcher x = small();
        x.cover(0, 1);
        int[][] wrong = {{-1, 0}, {3, 0}, {0, -1}, {0, 16}, {Check.GREATEST, 0}, {0, Check.LEAST}};
        for (int[] w : wrong) {
            Check.wrongIndex("cover(" + w[0] + ", " + w[1] + ")", () -> x.cover(w[0], w[1]));
        }
        Check.wrongState("cover without a cost", () -> x.cover(2, 0));
        Check.wrongState("cover of what no rule gives", () -> x.cover(0, 15));
        duePairs("the one before stays", x, new int[][] {{0, 0}, {0, 1}});
    }

    /** 16 pairs for each node: its own rule and a chain through all nonterminals. */
    private static void mostPairs() {
        TreeMatcher x = new TreeMatcher();
        x.operator(0, 0);
        x.operator(1, 1);
        Check.rule(x, 0, 0, 0);
        Check.rule(x, 0, 99, 1, 47);
        for (int n = 0; n < 15; n++) {
            Check.rule(x, n + 1, 99, 32 + n);
        }
        x.node(0, 0, N, N);
        for (int k = 1; k < 200; k++) {
            x.node(1, 0, k - 1, N);
        }
        Check.due("2000 pairs", x.cover(124, 15), 2000);
        Check.due("the last node", x.pair(1999, 0), 124);
        Check.due("the last rule", x.pair(1999, 1), 16);
        Check.due("the first node", x.pair(0, 0), 0);
        Check.due("the first rule", x.pair(0, 1), 0);
        Check.wrongState("2001 pairs", () -> x.cover(125, 0));
        Check.wrongState("3200 pairs", () -> x.cover(199, 15));
        Check.due("the one before stays", x.count(5), 2000);
        Check.due("with its pairs", x.pair(1998, 1), 15);
        Check.due("a great cost", x.cost(199, 15), 99 * (200 * 15 + 199));
        Check.due("1999 pairs", x.cover(124, 14), 1999);
    }

    private static void clear() {
        TreeMatcher x = small();
        x.cover(2, 2);
        x.element(4);
        Check.due("clear()", x.clear(), 3);
        Check.due("no nodes", x.count(2), 0);
        Check.due("no pairs", x.count(5), 0);
        Check.wrongIndex("no pair", () -> x.pair(0, 0));
        Check.wrongIndex("nothing is the same", () -> x.same(0, 0));
        Check.due("operators stay", x.count(0), 2);
        Check.due("rules stay", x.count(1), 3);
        Check.due("the pattern at hand stays", x.count(3), 1);
        Check.due("parts stay", x.count(4), 18);
        Check.due("clear() again", x.clear(), 0);
        Check.due("a rule again", x.rule(3, 5, 0, 0), 3);
        x.node(4, 0, N, N);
        Check.due("it is used", x.cost(0, 3), 5);
    }

    private static void count() {
        TreeMatcher x = small();
        x.cover(1, 1);
        x.element(47);
        int[] counts = {2, 3, 3, 1, 18, 2};
        for (int what = 0; what < counts.length; what++) {
            Check.due("count(" + what + ")", x.count(what), counts[what]);
        }
        for (int what : new int[] {-1, 6, Check.LEAST, Check.GREATEST}) {
            Check.wrongIndex("count(" + what + ")", () -> x.count(what));
        }
    }
}
