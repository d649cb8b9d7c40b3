import java.util.Arrays;

/**
 * Chooses instructions for trees by rules, which are patterns of operators with a cost, and counts
 * the states that a matcher made ahead of all trees would need.
 *
 * <p>This class itself only looks at arguments and throws; the work is done by the classes inside it,
 * which are called with what has been looked at.
 */
public final class TreeMatcher {
    public static final int NONE = -1;

    private static final int OPERATORS = 32;
    private static final int MOST_KIDS = 2;
    private static final int NONTERMINALS = 16;
    private static final int ELEMENTS = 12;
    private static final int RULES = 64;
    private static final int MOST_COST = 99;
    private static final int NODES = 200;
    private static final int PAIRS = 2000;
    private static final int STATES = 60;

    /** Most patterns that are operators in all rules: each element of each rule may begin one. */
    private static final int OPERATOR_PARTS = RULES * ELEMENTS;

    private final Grammar grammar;
    private final Forest forest;
    private final Covering covering;
    private final Tally tally;

    public TreeMatcher() {
        grammar = new Grammar();
        forest = new Forest(grammar);
        covering = new Covering(grammar, forest);
        tally = new Tally(grammar);
    }

    public int operator(int number, int kids) throws IllegalArgumentException, IllegalStateException {
        if (!isWithin(number, OPERATORS) || !isWithin(kids, MOST_KIDS + 1)) {
            throw new IllegalArgumentException("no number of an operator, or of kids");
        }
        if (grammar.hasOperator(number)) {
            throw new IllegalStateException("there is an operator of this number");
        }
        return grammar.addOperator(number, kids);
    }

    public int element(int e) throws IllegalArgumentException, IllegalStateException {
        if (!isWithin(e, OPERATORS + NONTERMINALS)) {
            throw new IllegalArgumentException("no element");
        }
        if (grammar.handSize() >= ELEMENTS) {
            throw new IllegalStateException("the pattern at hand is full");
        }
        return grammar.addElement(e);
    }

    public int rule(int gives, int cost, int low, int high) throws IllegalStateException, IllegalArgumentException {
        if (grammar.ruleCount() >= RULES || forest.size() > 0) {
            throw new IllegalStateException("no room for a rule, or there are nodes");
        }
        boolean good = isWithin(gives, NONTERMINALS) && isWithin(cost, MOST_COST + 1) && low <= high
                && grammar.handIsPattern();
        if (!good) {
            grammar.dropHand();
            throw new IllegalArgumentException("no rule");
        }
        return grammar.addRule(gives, cost, low, high);
    }

    public int node(int operator, int value, int left, int right)
            throws IllegalArgumentException, IllegalStateException {
        if (!grammar.hasOperator(operator) || !forest.takesKids(operator, left, right)) {
            throw new IllegalArgumentException("no such operator, or a kid is not so");
        }
        if (forest.size() >= NODES) {
            throw new IllegalStateException("no room for a node");
        }
        return forest.addNode(operator, value, left, right);
    }

    public int cost(int node, int nonterminal) throws IndexOutOfBoundsException {
        checkLabel(node, nonterminal);
        return forest.costOf(labelOf(node, nonterminal));
    }

    public int ruleAt(int node, int nonterminal) throws IndexOutOfBoundsException {
        checkLabel(node, nonterminal);
        return forest.ruleOf(labelOf(node, nonterminal));
    }

    public int cover(int node, int nonterminal) throws IndexOutOfBoundsException, IllegalStateException {
        checkLabel(node, nonterminal);
        int label = labelOf(node, nonterminal);
        if (forest.ruleOf(label) == NONE || !covering.build(label)) {
            throw new IllegalStateException("no cost there, or too many pairs");
        }
        return covering.size();
    }

    public int pair(int k, int what) throws IndexOutOfBoundsException {
        if (!isWithin(k, covering.size()) || !isWithin(what, 2)) {
            throw new IndexOutOfBoundsException("no such pair, or what");
        }
        int label = covering.labelAt(k);
        return what == 0 ? nodeOf(label) : forest.ruleOf(label);
    }

    public int states() throws IllegalStateException {
        if (grammar.hasLimits()) {
            throw new IllegalStateException("a rule has limits");
        }
        tally.refresh();
        if (tally.size() > STATES) {
            throw new IllegalStateException("too many states");
        }
        return tally.size();
    }

    public boolean same(int one, int other) throws IndexOutOfBoundsException {
        if (!isWithin(one, forest.size()) || !isWithin(other, forest.size())) {
            throw new IndexOutOfBoundsException("no such node");
        }
        return forest.vectorOf(one) == forest.vectorOf(other);
    }

    public int clear() {
        covering.forget();
        return forest.forget();
    }

    public int count(int what) throws IndexOutOfBoundsException {
        switch (what) {
            case 0:
                return grammar.operatorCount();
            case 1:
                return grammar.ruleCount();
            case 2:
                return forest.size();
            case 3:
                return grammar.handSize();
            case 4:
                return grammar.partCount();
            case 5:
                return covering.size();
            default:
                throw new IndexOutOfBoundsException("nothing to count");
        }
    }

    private void checkLabel(int node, int nonterminal) {
        if (!isWithin(node, forest.size()) || !isWithin(nonterminal, NONTERMINALS)) {
            throw new IndexOutOfBoundsException("no such node or nonterminal");
        }
    }

    private static boolean isWithin(int number, int bound) {
        return number >= 0 && number < bound;
    }

    /** A label is one nonterminal at one node; as one number it fits a stack, a row of pairs and an index. */
    private static int labelOf(int node, int nonterminal) {
        return node * NONTERMINALS + nonterminal;
    }

    private static int nodeOf(int label) {
        return label / NONTERMINALS;
    }

    /** Numbers in groups, those of a group side by side and in the order in which they came. */
    private static final class Groups {
        private final int groups;
        private final int[] starts;
        private final int[] members;

        Groups(int groups, int room) {
            this.groups = groups;
            starts = new int[groups + 1];
            members = new int[room];
        }

        void add(int group, int number) {
            int size = starts[groups];
            int at = starts[group + 1];
            if (size >= members.length) {
                return;
            }
            System.arraycopy(members, at, members, at + 1, size - at);
            members[at] = number;
            for (int later = group + 1; later <= groups; later++) {
                starts[later]++;
            }
        }

        int start(int group) {
            return starts[group];
        }

        int end(int group) {
            return starts[group + 1];
        }

        int member(int k) {
            return members[k];
        }
    }

    /** Operators, rules, their parts, and the pattern at hand. */
    private static final class Grammar {
        /** The group of the rules that are no chain rules; that of a chain rule is its pattern's nonterminal. */
        private static final int NO_CHAIN = NONTERMINALS;

        private final int[] kids = new int[OPERATORS];
        private int operatorCount = 0;

        private final int[] hand = new int[ELEMENTS];
        private int handSize = 0;

        private final int[] elements = new int[RULES * ELEMENTS];
        private final int[] lengths = new int[RULES];
        private final int[] gives = new int[RULES];
        private final int[] costs = new int[RULES];
        private final int[] lows = new int[RULES];
        private final int[] highs = new int[RULES];
        private final Groups rulesByChain = new Groups(NO_CHAIN + 1, RULES);
        private int ruleCount = 0;
        private boolean limits = false;

        private final Parts parts = new Parts();

        Grammar() {
            Arrays.fill(kids, NONE);
        }

        boolean hasOperator(int number) {
            return isWithin(number, OPERATORS) && kids[number] != NONE;
        }

        int addOperator(int number, int kidCount) {
            kids[number] = kidCount;
            operatorCount++;
            return operatorCount;
        }

        int operatorCount() {
            return operatorCount;
        }

        /** NONE for an operator that there is not. */
        int kidsOf(int operator) {
            return kids[operator];
        }

        int addElement(int e) {
            hand[handSize] = e;
            handSize++;
            return handSize;
        }

        int handSize() {
            return handSize;
        }

        void dropHand() {
            handSize = 0;
        }

        /** Told ahead of its kids, a pattern ends where no kid is due any more, and not before the last element. */
        boolean handIsPattern() {
            int due = 1;
            for (int k = 0; k < handSize; k++) {
                int e = hand[k];
                if (due == 0 || e < OPERATORS && !hasOperator(e)) {
                    return false;
                }
                due += e < OPERATORS ? kids[e] - 1 : -1;
            }
            return due == 0;
        }

        int addRule(int given, int cost, int low, int high) {
            int rule = ruleCount;
            System.arraycopy(hand, 0, elements, rule * ELEMENTS, handSize);
            lengths[rule] = handSize;
            gives[rule] = given;
            costs[rule] = cost;
            lows[rule] = low;
            highs[rule] = high;
            limits = limits || low != Integer.MIN_VALUE || high != Integer.MAX_VALUE;
            rulesByChain.add(hand[0] < OPERATORS ? NO_CHAIN : hand[0] - OPERATORS, rule);
            parts.addAll(hand, handSize, kids, rule);
            ruleCount++;
            dropHand();
            return rule;
        }

        int ruleCount() {
            return ruleCount;
        }

        int lengthOf(int rule) {
            return lengths[rule];
        }

        int elementOf(int rule, int k) {
            return elements[rule * ELEMENTS + k];
        }

        int givenBy(int rule) {
            return gives[rule];
        }

        int costOf(int rule) {
            return costs[rule];
        }

        boolean allows(int rule, int value) {
            return lows[rule] <= value && value <= highs[rule];
        }

        boolean hasLimits() {
            return limits;
        }

        Groups rulesByChain() {
            return rulesByChain;
        }

        Parts parts() {
            return parts;
        }

        int partCount() {
            return parts.size();
        }
    }

    /** The parts of a grammar, by their places in a vector: the nonterminals, then the patterns that are operators. */
    private static final class Parts {
        private static final int MOST = NONTERMINALS + OPERATOR_PARTS;

        private final int[] lefts = new int[MOST];
        private final int[] rights = new int[MOST];
        private final int[] rules = new int[MOST];
        private final int[] open = new int[ELEMENTS];
        private final Groups byOperator = new Groups(OPERATORS, OPERATOR_PARTS);
        private int size = NONTERMINALS;

        /** Goes from the last element to the first: the kids of an operator are then the last parts left open. */
        void addAll(int[] elements, int length, int[] kids, int rule) {
            int top = 0;
            for (int k = length - 1; k >= 0; k--) {
                int e = elements[k];
                int part = e - OPERATORS;
                if (e < OPERATORS) {
                    part = addPart(e, k == 0 ? rule : NONE);
                    lefts[part] = kids[e] > 0 ? open[--top] : NONE;
                    rights[part] = kids[e] > 1 ? open[--top] : NONE;
                }
                open[top] = part;
                top++;
            }
        }

        private int addPart(int operator, int rule) {
            int part = size;
            rules[part] = rule;
            byOperator.add(operator, part);
            size++;
            return part;
        }

        int size() {
            return size;
        }

        /** The part of the first kid; NONE without. */
        int leftOf(int part) {
            return lefts[part];
        }

        int rightOf(int part) {
            return rights[part];
        }

        /** The rule whose whole pattern the part is; NONE for a pattern within another one. */
        int ruleOf(int part) {
            return rules[part];
        }

        Groups byOperator() {
            return byOperator;
        }
    }

    /** The labels of the one node, or tree, that is looked at. */
    private static final class Labels {
        private final Grammar grammar;
        private final long[] costs = new long[NONTERMINALS];
        private final int[] rules = new int[NONTERMINALS];

        Labels(Grammar grammar) {
            this.grammar = grammar;
        }

        void forget() {
            Arrays.fill(costs, NONE);
            Arrays.fill(rules, NONE);
        }

        /**
         * A rule offers what it gives for a cost; if that is taken, the chain rules behind it do so at once, one
         * level deeper. Costs never fall along chain rules, so no nonterminal is lowered again behind itself: the
         * depth of one that is lowered stays under the number of nonterminals.
         */
        void offer(int rule, long cost, int depth) {
            int given = grammar.givenBy(rule);
            boolean better = costs[given] == NONE || cost < costs[given];
            if (!better || depth >= NONTERMINALS) {
                return;
            }
            costs[given] = cost;
            rules[given] = rule;
            Groups chains = grammar.rulesByChain();
            for (int k = chains.start(given); k < chains.end(given); k++) {
                int chain = chains.member(k);
                offer(chain, cost + grammar.costOf(chain), depth + 1);
            }
        }

        long costOf(int nonterminal) {
            return costs[nonterminal];
        }

        int ruleOf(int nonterminal) {
            return rules[nonterminal];
        }
    }

    /** The nodes and their labels. */
    private static final class Forest {
        private final Grammar grammar;
        private final int[] operators = new int[NODES];
        private final int[] values = new int[NODES];
        private final int[] lefts = new int[NODES];
        private final int[] rights = new int[NODES];
        private final boolean[] isKid = new boolean[NODES];
        private final int[] costs = new int[NODES * NONTERMINALS];
        private final int[] rules = new int[NODES * NONTERMINALS];
        private final int[] vectorRows = new int[NODES];
        private int size = 0;

        private final Labels labels;
        private final Vectors vectors;
        private final int[] places = new int[ELEMENTS];
        private final int[] open = new int[ELEMENTS + 1];

        Forest(Grammar grammar) {
            this.grammar = grammar;
            labels = new Labels(grammar);
            vectors = new Vectors(grammar, NODES);
        }

        int size() {
            return size;
        }

        boolean takesKids(int operator, int left, int right) {
            int kids = grammar.kidsOf(operator);
            boolean leftGood = kids > 0 ? isFree(left) : left == NONE;
            boolean rightGood = kids > 1 ? isFree(right) && right != left : right == NONE;
            return leftGood && rightGood;
        }

        private boolean isFree(int node) {
            return isWithin(node, size) && !isKid[node];
        }

        int addNode(int operator, int value, int left, int right) {
            int node = size;
            operators[node] = operator;
            values[node] = value;
            lefts[node] = left;
            rights[node] = right;
            isKid[node] = false;
            size++;
            int leftRow = adopt(left);
            int rightRow = adopt(right);
            vectorRows[node] = vectors.rowOf(operator, leftRow, rightRow);
            label(node);
            return node;
        }

        /** Answers the row of the kid's vector. */
        private int adopt(int kid) {
            if (kid == NONE) {
                return NONE;
            }
            isKid[kid] = true;
            return vectorRows[kid];
        }

        private void label(int node) {
            labels.forget();
            Groups byChain = grammar.rulesByChain();
            for (int k = byChain.start(Grammar.NO_CHAIN); k < byChain.end(Grammar.NO_CHAIN); k++) {
                int rule = byChain.member(k);
                int cost = fit(rule, node);
                if (cost != NONE) {
                    labels.offer(rule, cost, 0);
                }
            }
            for (int nonterminal = 0; nonterminal < NONTERMINALS; nonterminal++) {
                int label = labelOf(node, nonterminal);
                costs[label] = (int) labels.costOf(nonterminal);
                rules[label] = labels.ruleOf(nonterminal);
            }
        }

        /** The cost for which a rule that is no chain rule fits at a node; NONE if it doesn't. */
        private int fit(int rule, int node) {
            if (!findPlaces(rule, node)) {
                return NONE;
            }
            int sum = grammar.costOf(rule);
            int last = node;
            for (int k = 0; k < grammar.lengthOf(rule); k++) {
                int e = grammar.elementOf(rule, k);
                if (e < OPERATORS) {
                    last = places[k];
                    continue;
                }
                int cost = costs[labelOf(places[k], e - OPERATORS)];
                if (cost == NONE) {
                    return NONE;
                }
                sum += cost;
            }
            return grammar.allows(rule, values[last]) ? sum : NONE;
        }

        /** Finds the node at which each element of a rule's pattern stands; false if an operator is not the node's. */
        boolean findPlaces(int rule, int node) {
            int top = 0;
            open[top++] = node;
            for (int k = 0; k < grammar.lengthOf(rule) && top > 0; k++) {
                int at = open[--top];
                int e = grammar.elementOf(rule, k);
                places[k] = at;
                if (e >= OPERATORS) {
                    continue;
                }
                if (operators[at] != e) {
                    return false;
                }
                if (rights[at] != NONE) {
                    open[top++] = rights[at];
                }
                if (lefts[at] != NONE) {
                    open[top++] = lefts[at];
                }
            }
            return true;
        }

        int placeOf(int k) {
            return places[k];
        }

        int costOf(int label) {
            return costs[label];
        }

        int ruleOf(int label) {
            return rules[label];
        }

        /** Nodes with the same vector share its row. */
        int vectorOf(int node) {
            return vectorRows[node];
        }

        int forget() {
            int before = size;
            size = 0;
            vectors.forget();
            return before;
        }
    }

    /** The cover: a row of labels, each of which tells its node and its rule. */
    private static final class Covering {
        private final Grammar grammar;
        private final Forest forest;
        private final int[] labels = new int[PAIRS];
        private final int[] backwards = new int[PAIRS];
        /** The labels that wait stand at nodes of which none is below another one, so there are never more. */
        private final int[] open = new int[NODES];
        private int top = 0;
        private int size = 0;

        Covering(Grammar grammar, Forest forest) {
            this.grammar = grammar;
            this.forest = forest;
        }

        int size() {
            return size;
        }

        int labelAt(int k) {
            return labels[k];
        }

        void forget() {
            size = 0;
        }

        /**
         * Goes from the root down, the last kid first, without recursion, since trees may be deep: that is the
         * cover backwards. False, and the cover before stays, if there would be too many pairs.
         */
        boolean build(int label) {
            int found = 0;
            top = 0;
            push(label);
            while (top > 0) {
                if (found >= PAIRS) {
                    return false;
                }
                top--;
                backwards[found] = open[top];
                pushKids(open[top]);
                found++;
            }
            for (int k = 0; k < found; k++) {
                labels[k] = backwards[found - 1 - k];
            }
            size = found;
            return true;
        }

        private void pushKids(int label) {
            int rule = forest.ruleOf(label);
            if (rule == NONE || !forest.findPlaces(rule, nodeOf(label))) {
                return;
            }
            for (int k = 0; k < grammar.lengthOf(rule); k++) {
                int e = grammar.elementOf(rule, k);
                if (e >= OPERATORS) {
                    push(labelOf(forest.placeOf(k), e - OPERATORS));
                }
            }
        }

        private void push(int label) {
            if (top < open.length) {
                open[top] = label;
                top++;
            }
        }
    }

    /** Vectors that differ, a row each. */
    private static final class Vectors {
        /**
         * Sums stop here, so that no sum wraps. Costs would have to double some fifty times to come so far; no
         * grammar is known that does so within the rows that there are.
         */
        private static final long MOST_SUM = 1L << 61;

        private final Grammar grammar;
        private final Parts parts;
        private final Groups byOperator;
        private final Labels labels;
        private final long[][] rows;
        /** The operator at the root of a row's trees; NONE where no part fits: then no operator tells trees apart. */
        private final int[] roots;
        /** Of the tree that is looked at, the costs of the parts that begin with its operator: no other one can fit. */
        private final long[] fresh = new long[Parts.MOST];
        private int size = 0;

        Vectors(Grammar grammar, int room) {
            this.grammar = grammar;
            parts = grammar.parts();
            byOperator = parts.byOperator();
            labels = new Labels(grammar);
            rows = new long[room][];
            roots = new int[room];
        }

        int size() {
            return size;
        }

        void forget() {
            size = 0;
        }

        /**
         * The row of the vector of a tree, told by its operator and the rows of its kids, which is a new row if the
         * vector is new; NONE without room. The kids' vectors are enough: what was taken from all costs of a kid is
         * missing from all costs of the tree alike.
         */
        int rowOf(int operator, int left, int right) {
            long least = compose(operator, left, right);
            subtract(operator, least);
            int root = least == NONE ? NONE : operator;
            for (int row = 0; row < size; row++) {
                if (roots[row] == root && isFresh(row, operator)) {
                    return row;
                }
            }
            return size < rows.length ? keep(operator, root) : NONE;
        }

        /** Answers the least cost, NONE if no part fits; a nonterminal costs no less than the pattern that gave it. */
        private long compose(int operator, int left, int right) {
            long least = NONE;
            for (int k = byOperator.start(operator); k < byOperator.end(operator); k++) {
                int part = byOperator.member(k);
                long cost = sum(entry(left, parts.leftOf(part)), entry(right, parts.rightOf(part)));
                fresh[part] = cost;
                if (cost != NONE && (least == NONE || cost < least)) {
                    least = cost;
                }
            }
            return least;
        }

        /** A kid that a part does not have costs nothing. */
        private long entry(int row, int part) {
            if (part == NONE) {
                return 0;
            }
            return isWithin(row, size) && part < rows[row].length ? rows[row][part] : NONE;
        }

        private static long sum(long left, long right) {
            return left == NONE || right == NONE ? NONE : Math.min(left + right, MOST_SUM);
        }

        private void subtract(int operator, long least) {
            for (int k = byOperator.start(operator); k < byOperator.end(operator); k++) {
                int part = byOperator.member(k);
                if (fresh[part] != NONE) {
                    fresh[part] -= least;
                }
            }
        }

        /** Looks at no nonterminal: their costs follow from those of the parts. */
        private boolean isFresh(int row, int operator) {
            long[] kept = rows[row];
            for (int k = byOperator.start(operator); k < byOperator.end(operator); k++) {
                int part = byOperator.member(k);
                if (kept[part] != fresh[part]) {
                    return false;
                }
            }
            return true;
        }

        private int keep(int operator, int root) {
            int row = size;
            if (rows[row] == null || rows[row].length < parts.size()) {
                rows[row] = new long[parts.size()];
            }
            fill(rows[row], operator);
            roots[row] = root;
            size++;
            return row;
        }

        private void fill(long[] kept, int operator) {
            Arrays.fill(kept, NONE);
            labels.forget();
            for (int k = byOperator.start(operator); k < byOperator.end(operator); k++) {
                int part = byOperator.member(k);
                int rule = parts.ruleOf(part);
                kept[part] = fresh[part];
                if (rule != NONE && fresh[part] != NONE) {
                    labels.offer(rule, fresh[part] + grammar.costOf(rule), 0);
                }
            }
            for (int nonterminal = 0; nonterminal < NONTERMINALS; nonterminal++) {
                kept[nonterminal] = labels.costOf(nonterminal);
            }
        }
    }

    /** Counts the states of a grammar. */
    private static final class Tally {
        private final Grammar grammar;
        private final Vectors vectors;
        /** Operators and rules are only ever added, so their numbers tell whether the last count still holds. */
        private int operatorsThen = 0;
        private int rulesThen = 0;

        Tally(Grammar grammar) {
            this.grammar = grammar;
            vectors = new Vectors(grammar, STATES + 1);
        }

        /** How many states there were at the last refresh; more than STATES if there were too many. */
        int size() {
            return vectors.size();
        }

        void refresh() {
            if (operatorsThen == grammar.operatorCount() && rulesThen == grammar.ruleCount()) {
                return;
            }
            operatorsThen = grammar.operatorCount();
            rulesThen = grammar.ruleCount();
            vectors.forget();
            for (int operator = 0; operator < OPERATORS; operator++) {
                if (grammar.kidsOf(operator) == 0) {
                    vectors.rowOf(operator, NONE, NONE);
                }
            }
            for (int state = 0; state < vectors.size() && vectors.size() <= STATES; state++) {
                for (int operator = 0; operator < OPERATORS; operator++) {
                    putAbove(operator, state);
                }
            }
        }

        /** Each pair of kids comes up once, when the later one of them does. */
        private void putAbove(int operator, int state) {
            int kids = grammar.kidsOf(operator);
            if (kids == 1) {
                vectors.rowOf(operator, state, NONE);
            }
            if (kids != 2) {
                return;
            }
            vectors.rowOf(operator, state, state);
            for (int other = 0; other < state && vectors.size() <= STATES; other++) {
                vectors.rowOf(operator, state, other);
                vectors.rowOf(operator, other, state);
            }
        }
    }
}
