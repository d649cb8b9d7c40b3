import java.math.BigInteger;
import java.util.ArrayDeque;
import java.util.ArrayList;
import java.util.Deque;
import java.util.HashSet;
import java.util.List;
import java.util.Set;

/**
 * The document in its plainest form, without regard to room and time: patterns and trees are objects,
 * costs have no bound, and recursion follows patterns and chain rules alone, never the height of a tree.
 * Answers are texts, so that an exception is an answer too.
 */
final class Model {
    private static final String ARGUMENT = "IllegalArgumentException";
    private static final String STATE = "IllegalStateException";
    private static final String INDEX = "IndexOutOfBoundsException";

    private static final class Pattern {
        final int element;
        final List<Pattern> kids = new ArrayList<>();

        Pattern(int element) {
            this.element = element;
        }

        boolean isNonterminal() {
            return element >= 32;
        }
    }

    private record Rule(int gives, int cost, int low, int high, Pattern pattern) {
        boolean isChain() {
            return pattern.isNonterminal();
        }
    }

    private static final class Labels {
        final BigInteger[] costs = new BigInteger[16];
        final int[] rules = new int[16];
    }

    private static final class Tree {
        int operator;
        int value;
        List<Tree> kids = new ArrayList<>();
        boolean isKid;
        /** With the limits of rules, and without. */
        Labels labels = new Labels();
        Labels free = new Labels();

        Labels labels(boolean limits) {
            return limits ? labels : free;
        }
    }

    private record Pair(Tree node, int rule) {
    }

    /** A pattern still to be covered at a node; without a pattern, the pair that is then due. */
    private record Step(Pattern pattern, Tree node, int rule) {
    }

    private final int[] kids = new int[32];
    private final List<Integer> hand = new ArrayList<>();
    private final List<Rule> rules = new ArrayList<>();
    private final List<Tree> nodes = new ArrayList<>();
    private List<Pair> cover = new ArrayList<>();

    Model() {
        java.util.Arrays.fill(kids, -1);
    }

    private static String text(int number) {
        return Integer.toString(number);
    }

    private int operators() {
        int sum = 0;
        for (int k : kids) {
            sum += k >= 0 ? 1 : 0;
        }
        return sum;
    }

    /** -1 for an operator that there is not. */
    int kidsOf(int number) {
        return kids[number];
    }

    String operator(int number, int kidCount) {
        if (number < 0 || number > 31 || kidCount < 0 || kidCount > 2) {
            return ARGUMENT;
        }
        if (kids[number] >= 0) {
            return STATE;
        }
        kids[number] = kidCount;
        return text(operators());
    }

    String element(int e) {
        if (e < 0 || e > 47) {
            return ARGUMENT;
        }
        if (hand.size() == 12) {
            return STATE;
        }
        hand.add(e);
        return text(hand.size());
    }

    /** Takes the elements of one pattern off the list; null if there is none. */
    private Pattern parse(List<Integer> rest) {
        if (rest.isEmpty()) {
            return null;
        }
        Pattern p = new Pattern(rest.remove(0));
        if (p.isNonterminal()) {
            return p;
        }
        if (kids[p.element] < 0) {
            return null;
        }
        for (int k = 0; k < kids[p.element]; k++) {
            Pattern kid = parse(rest);
            if (kid == null) {
                return null;
            }
            p.kids.add(kid);
        }
        return p;
    }

    String rule(int gives, int cost, int low, int high) {
        if (rules.size() == 64 || !nodes.isEmpty()) {
            return STATE;
        }
        List<Integer> rest = new ArrayList<>(hand);
        hand.clear();
        Pattern p = parse(rest);
        if (gives < 0 || gives > 15 || cost < 0 || cost > 99 || low > high || p == null || !rest.isEmpty()) {
            return ARGUMENT;
        }
        rules.add(new Rule(gives, cost, low, high, p));
        return text(rules.size() - 1);
    }

    private boolean isFree(int node) {
        return node >= 0 && node < nodes.size() && !nodes.get(node).isKid;
    }

    String node(int operator, int value, int left, int right) {
        if (operator < 0 || operator > 31 || kids[operator] < 0) {
            return ARGUMENT;
        }
        int k = kids[operator];
        boolean good = k == 0 && left == -1 && right == -1
                || k == 1 && isFree(left) && right == -1
                || k == 2 && isFree(left) && isFree(right) && left != right;
        if (!good) {
            return ARGUMENT;
        }
        if (nodes.size() == 200) {
            return STATE;
        }
        List<Tree> below = new ArrayList<>();
        if (k > 0) {
            below.add(nodes.get(left));
        }
        if (k > 1) {
            below.add(nodes.get(right));
        }
        for (Tree kid : below) {
            kid.isKid = true;
        }
        nodes.add(tree(operator, value, below));
        return text(nodes.size() - 1);
    }

    private Tree tree(int operator, int value, List<Tree> below) {
        Tree t = new Tree();
        t.operator = operator;
        t.value = value;
        t.kids = below;
        label(t, true);
        label(t, false);
        return t;
    }

    private void label(Tree t, boolean limits) {
        java.util.Arrays.fill(t.labels(limits).rules, -1);
        for (int r = 0; r < rules.size(); r++) {
            Rule rule = rules.get(r);
            if (rule.isChain()) {
                continue;
            }
            BigInteger cost = fit(rule.pattern, t, limits);
            if (cost == null) {
                continue;
            }
            int last = lastOperator(rule.pattern, t).value;
            if (!limits || rule.low <= last && last <= rule.high) {
                give(t, r, cost.add(BigInteger.valueOf(rule.cost)), limits);
            }
        }
    }

    private void give(Tree t, int r, BigInteger cost, boolean limits) {
        Labels labels = t.labels(limits);
        int n = rules.get(r).gives;
        if (labels.costs[n] != null && labels.costs[n].compareTo(cost) <= 0) {
            return;
        }
        labels.costs[n] = cost;
        labels.rules[n] = r;
        for (int c = 0; c < rules.size(); c++) {
            Rule chain = rules.get(c);
            if (chain.isChain() && chain.pattern.element - 32 == n) {
                give(t, c, labels.costs[n].add(BigInteger.valueOf(chain.cost)), limits);
            }
        }
    }

    private static BigInteger fit(Pattern p, Tree t, boolean limits) {
        if (p.isNonterminal()) {
            return t.labels(limits).costs[p.element - 32];
        }
        if (p.element != t.operator) {
            return null;
        }
        BigInteger sum = BigInteger.ZERO;
        for (int k = 0; k < p.kids.size(); k++) {
            BigInteger cost = fit(p.kids.get(k), t.kids.get(k), limits);
            if (cost == null) {
                return null;
            }
            sum = sum.add(cost);
        }
        return sum;
    }

    private static Tree lastOperator(Pattern p, Tree t) {
        Tree last = t;
        for (int k = 0; k < p.kids.size(); k++) {
            if (!p.kids.get(k).isNonterminal()) {
                last = lastOperator(p.kids.get(k), t.kids.get(k));
            }
        }
        return last;
    }

    private boolean isLabel(int node, int n) {
        return node >= 0 && node < nodes.size() && n >= 0 && n < 16;
    }

    String cost(int node, int n) {
        if (!isLabel(node, n)) {
            return INDEX;
        }
        BigInteger cost = nodes.get(node).labels.costs[n];
        return cost == null ? "-1" : cost.toString();
    }

    String ruleAt(int node, int n) {
        return isLabel(node, n) ? text(nodes.get(node).labels.rules[n]) : INDEX;
    }

    String cover(int node, int n) {
        if (!isLabel(node, n)) {
            return INDEX;
        }
        if (nodes.get(node).labels.costs[n] == null) {
            return STATE;
        }
        List<Pair> made = coverOf(nodes.get(node), n);
        if (made.size() > 2000) {
            return STATE;
        }
        cover = made;
        return text(made.size());
    }

    /** By a row of open steps: a cover may go 3,200 labels deep, which a machine's stack need not hold. */
    private List<Pair> coverOf(Tree root, int n) {
        List<Pair> made = new ArrayList<>();
        Deque<Step> open = new ArrayDeque<>();
        openLabel(root, n, open);
        while (!open.isEmpty()) {
            Step step = open.pop();
            if (step.pattern == null) {
                made.add(new Pair(step.node, step.rule));
            } else if (step.pattern.isNonterminal()) {
                openLabel(step.node, step.pattern.element - 32, open);
            } else {
                for (int k = step.pattern.kids.size() - 1; k >= 0; k--) {
                    open.push(new Step(step.pattern.kids.get(k), step.node.kids.get(k), -1));
                }
            }
        }
        return made;
    }

    private void openLabel(Tree t, int n, Deque<Step> open) {
        int r = t.labels.rules[n];
        open.push(new Step(null, t, r));
        open.push(new Step(rules.get(r).pattern, t, -1));
    }

    String pair(int k, int what) {
        if (k < 0 || k >= cover.size() || what < 0 || what > 1) {
            return INDEX;
        }
        return text(what == 0 ? nodes.indexOf(cover.get(k).node) : cover.get(k).rule);
    }

    private static void addOperators(Pattern p, List<Pattern> all) {
        if (!p.isNonterminal()) {
            all.add(p);
        }
        for (Pattern kid : p.kids) {
            addOperators(kid, all);
        }
    }

    private List<Pattern> parts() {
        List<Pattern> all = new ArrayList<>();
        for (int n = 0; n < 16; n++) {
            all.add(new Pattern(32 + n));
        }
        for (Rule r : rules) {
            addOperators(r.pattern, all);
        }
        return all;
    }

    private static String vector(List<Pattern> parts, Tree t) {
        List<BigInteger> costs = new ArrayList<>();
        BigInteger least = null;
        for (Pattern p : parts) {
            BigInteger cost = fit(p, t, false);
            costs.add(cost);
            least = cost == null ? least : least == null ? cost : least.min(cost);
        }
        StringBuilder text = new StringBuilder();
        for (BigInteger cost : costs) {
            text.append(cost == null ? "no" : cost.subtract(least).toString()).append(' ');
        }
        return text.toString();
    }

    /** One tree for each vector; kids are shared, since only their costs matter here. */
    String states() {
        for (Rule r : rules) {
            if (r.low != Integer.MIN_VALUE || r.high != Integer.MAX_VALUE) {
                return STATE;
            }
        }
        List<Pattern> parts = parts();
        Set<String> vectors = new HashSet<>();
        List<Tree> trees = new ArrayList<>();
        boolean more = true;
        int done = 0;
        while (more && trees.size() <= 60) {
            List<Tree> now = new ArrayList<>(trees);
            for (int o = 0; o < 32; o++) {
                for (List<Tree> below : kidLists(kids[o], now, done)) {
                    Tree t = tree(o, 0, below);
                    if (trees.size() <= 60 && vectors.add(vector(parts, t))) {
                        trees.add(t);
                    }
                }
            }
            more = trees.size() > now.size();
            done = now.size();
        }
        return trees.size() > 60 ? STATE : text(trees.size());
    }

    /** All lists of so many kids; those of the first 'done' trees alone have been looked at. */
    private static List<List<Tree>> kidLists(int kidCount, List<Tree> now, int done) {
        List<List<Tree>> lists = new ArrayList<>();
        if (kidCount == 0) {
            lists.add(List.of());
        }
        for (int i = 0; kidCount > 0 && i < now.size(); i++) {
            if (kidCount == 1 && i >= done) {
                lists.add(List.of(now.get(i)));
            }
            for (int j = 0; kidCount == 2 && j < now.size(); j++) {
                if (i >= done || j >= done) {
                    lists.add(List.of(now.get(i), now.get(j)));
                }
            }
        }
        return lists;
    }

    String same(int one, int other) {
        if (!isLabel(one, 0) || !isLabel(other, 0)) {
            return INDEX;
        }
        List<Pattern> parts = parts();
        return vector(parts, nodes.get(one)).equals(vector(parts, nodes.get(other))) ? "true" : "false";
    }

    String clear() {
        int before = nodes.size();
        nodes.clear();
        cover = new ArrayList<>();
        return text(before);
    }

    String count(int what) {
        switch (what) {
            case 0:
                return text(operators());
            case 1:
                return text(rules.size());
            case 2:
                return text(nodes.size());
            case 3:
                return text(hand.size());
            case 4:
                return text(parts().size());
            case 5:
                return text(cover.size());
            default:
                return INDEX;
        }
    }
}
