import java.util.ArrayList;
import java.util.List;

/** All promises: long runs of calls, the same each time, each answer held against that of the plain model. */
public final class RunsTest {
    private static final int RUNS = 1500;
    private static final int CALLS = 512;
    private static final int[] EDGES = {Integer.MIN_VALUE, Integer.MIN_VALUE + 1, -2, -1, 0, 1, 1 << 28, 3 << 28,
        Integer.MAX_VALUE - 1, Integer.MAX_VALUE};

    private long seed;
    private final TreeMatcher matcher = new TreeMatcher();
    private final Model model = new Model();
    private final int run;
    private int calls = 0;
    private final int[] kids = new int[32];
    private int operators = 0;
    private final int nonterminals;
    private final int mostCost;
    private final boolean limits;
    /** Nodes that are no kids yet. */
    private final List<Integer> roots = new ArrayList<>();

    private static int states = 0;
    private static int tooMany = 0;
    private static int mostStates = 0;
    private static int covers = 0;
    private static int longCovers = 0;
    private static int full = 0;

    private RunsTest(int run) {
        this.run = run;
        seed = run * 7919L + 17;
        nonterminals = 1 + below(run % 3 == 0 ? 16 : 4);
        mostCost = run % 2 == 0 ? 4 : 100;
        limits = run % 4 == 1;
    }

    public static void main(String[] args) {
        for (int run = 0; run < RUNS; run++) {
            new RunsTest(run).go();
            new RunsTest(run).goFull();
        }
        System.out.println("states counted " + states + " times, at most " + mostStates + ", too many " + tooMany
                + " times; covers " + covers + ", too long " + longCovers + ", calls refused for want of room " + full);
        Check.due("runs count states, covers and too many states", states > 100 && tooMany > 100 && covers > 100, true);
        Check.due("runs come to where there is no room", longCovers > 100 && full > 100, true);
        Check.end();
    }

    private int below(int bound) {
        seed = seed * 6364136223846793005L + 1442695040888963407L;
        return (int) ((seed >>> 33) % bound);
    }

    private void go() {
        int rounds = 1 + below(3);
        for (int round = 0; round < rounds; round++) {
            addOperators(1 + below(5));
            addRules(1 + below(run % 5 == 0 ? 20 : 8));
            make("states");
            addNodes(1 + below(run % 7 == 0 ? 200 : 40));
            ask(30 + below(60));
            make("states");
            make("clear");
            roots.clear();
        }
    }

    /** Until there is no room any more: a chain of rules through all nonterminals, others at random, a high tree. */
    private void goFull() {
        make("operator", below(32), 0);
        make("operator", below(32), 1);
        int leaf = findOperator(0);
        int unary = findOperator(1);
        if (leaf < 0 || unary < 0) {
            return;
        }
        int rules = below(2) == 0 ? 70 : 17 + below(8);
        for (int k = 0; k < rules; k++) {
            boolean chain = k > 16 ? below(3) > 0 : k > 0 && k < 16;
            if (!chain) {
                make("element", k == 0 ? leaf : unary);
            }
            if (k > 0) {
                make("element", 32 + (k <= 16 ? k - 1 : below(nonterminals)));
            }
            int gives = k <= 16 ? k % 16 : below(nonterminals);
            make("rule", gives, below(mostCost), Integer.MIN_VALUE, limits ? edge() : Integer.MAX_VALUE);
        }
        make("states");
        make("node", leaf, edge(), -1, -1);
        int nodes = rules > 60 ? 120 : 205;
        for (int k = 0; k < nodes; k++) {
            make("node", unary, edge(), Math.min(k, 199), -1);
        }
        ask(60);
        make("clear");
    }

    private int edge() {
        return EDGES[below(EDGES.length)];
    }

    private int findOperator(int kidCount) {
        for (int number = 0; number < 32; number++) {
            if (model.kidsOf(number) == kidCount) {
                return number;
            }
        }
        return -1;
    }

    private void addOperators(int more) {
        for (int k = 0; k < more; k++) {
            int number = operators == 0 ? below(32) : wild(32);
            int count = operators == 0 ? 0 : wild(3);
            String answer = make("operator", number, count);
            if (Character.isDigit(answer.charAt(0))) {
                kids[operators] = number * 4 + count;
                operators++;
            }
        }
    }

    /** Within the bound, but now and then not. */
    private int wild(int bound) {
        int dice = below(40);
        if (dice == 0) {
            return below(2) == 0 ? -1 : bound;
        }
        if (dice == 1) {
            return edge();
        }
        return dice == 2 ? below(Integer.MAX_VALUE) * (1 - 2 * below(2)) : below(bound);
    }

    private void addRules(int more) {
        for (int k = 0; k < more; k++) {
            List<Integer> elements = new ArrayList<>();
            pattern(elements, below(5) == 0 ? 0 : 1 + below(3));
            if (below(25) == 0) {
                elements.add(wild(48));
            }
            if (below(25) == 0) {
                elements.remove(elements.size() - 1);
            }
            for (int e : elements) {
                make("element", e);
            }
            boolean limited = limits && below(3) == 0;
            int low = limited ? below(4) == 0 ? edge() : below(5) - 2 : Integer.MIN_VALUE;
            int high = limited ? below(4) == 0 ? edge() : below(5) : Integer.MAX_VALUE;
            make("rule", below(60) == 0 ? 16 : below(nonterminals), below(60) == 0 ? 100 : below(mostCost), low, high);
        }
    }

    private void pattern(List<Integer> elements, int depth) {
        if (depth == 0) {
            elements.add(32 + below(nonterminals));
            return;
        }
        int operator = kids[below(operators)];
        elements.add(operator / 4);
        for (int k = 0; k < operator % 4; k++) {
            pattern(elements, below(depth));
        }
    }

    private void addNodes(int more) {
        for (int k = 0; k < more; k++) {
            int operator = kids[below(operators)];
            int count = operator % 4;
            int left = count > 0 ? takeRoot() : -1;
            int right = count > 1 ? takeRoot() : -1;
            if (below(30) == 0) {
                left = wild(20);
            }
            if (below(30) == 0) {
                right = wild(20);
            }
            int number = below(40) == 0 ? wild(32) : operator / 4;
            String answer = make("node", number, below(5) == 0 ? edge() : below(7) - 2, left, right);
            if (!Character.isDigit(answer.charAt(0))) {
                continue;
            }
            roots.remove((Integer) left);
            roots.remove((Integer) right);
            roots.add(Integer.parseInt(answer));
        }
    }

    /** Mostly the newest trees, so that trees grow. */
    private int takeRoot() {
        if (roots.isEmpty()) {
            return -1;
        }
        int back = below(4) == 0 ? below(roots.size()) : below(Math.min(2, roots.size()));
        return roots.get(roots.size() - 1 - back);
    }

    private void ask(int more) {
        int nodes = Math.max(1, Integer.parseInt(model.count(2)));
        for (int k = 0; k < more; k++) {
            int node = below(3) == 0 ? wild(nodes) : nodes - 1 - below(Math.min(5, nodes));
            switch (below(9)) {
                case 0:
                case 1:
                    make("cost", node, wild(nonterminals));
                    break;
                case 2:
                    make("ruleAt", node, wild(nonterminals));
                    break;
                case 3:
                case 4:
                    make("cover", node, wild(nonterminals));
                    break;
                case 5:
                    make("pair", wild(1 + Integer.parseInt(model.count(5))), wild(2));
                    break;
                case 6:
                    make("same", node, wild(nodes));
                    break;
                case 7:
                    make("count", wild(6));
                    break;
                default:
                    make("element", wild(48));
                    break;
            }
        }
        for (int k = 0; k < Math.min(40, Integer.parseInt(model.count(5))); k++) {
            make("pair", k, 0);
            make("pair", k, 1);
        }
        make("rule", 0, 0, 0, 0);
    }

    private String make(String call, int... a) {
        calls++;
        if (calls > CALLS) {
            return "-";
        }
        String want = due(call, a);
        String got;
        try {
            got = answer(call, a);
        } catch (RuntimeException e) {
            got = e.getClass().getSimpleName();
        }
        Check.due("run " + run + ", call " + calls + ": " + call + java.util.Arrays.toString(a) + " answered " + got
                + ", the model " + want + "; so it", got.equals(want), true);
        tell(call, want);
        boolean refused = call.equals("cover") && want.equals("IllegalStateException");
        longCovers += refused && !model.cost(a[0], a[1]).equals("-1") ? 1 : 0;
        return want;
    }

    private static void tell(String call, String want) {
        boolean answered = Character.isDigit(want.charAt(0));
        if (call.equals("states") && answered) {
            states++;
            mostStates = Math.max(mostStates, Integer.parseInt(want));
        }
        tooMany += call.equals("states") && !answered ? 1 : 0;
        covers += call.equals("cover") && answered ? 1 : 0;
        boolean refused = want.equals("IllegalStateException");
        full += (call.equals("rule") || call.equals("node")) && refused ? 1 : 0;
    }

    private String answer(String call, int[] a) {
        switch (call) {
            case "operator":
                return "" + matcher.operator(a[0], a[1]);
            case "element":
                return "" + matcher.element(a[0]);
            case "rule":
                return "" + matcher.rule(a[0], a[1], a[2], a[3]);
            case "node":
                return "" + matcher.node(a[0], a[1], a[2], a[3]);
            case "cost":
                return "" + matcher.cost(a[0], a[1]);
            case "ruleAt":
                return "" + matcher.ruleAt(a[0], a[1]);
            case "cover":
                return "" + matcher.cover(a[0], a[1]);
            case "pair":
                return "" + matcher.pair(a[0], a[1]);
            case "states":
                return "" + matcher.states();
            case "same":
                return "" + matcher.same(a[0], a[1]);
            case "clear":
                return "" + matcher.clear();
            default:
                return "" + matcher.count(a[0]);
        }
    }

    private String due(String call, int[] a) {
        switch (call) {
            case "operator":
                return model.operator(a[0], a[1]);
            case "element":
                return model.element(a[0]);
            case "rule":
                return model.rule(a[0], a[1], a[2], a[3]);
            case "node":
                return model.node(a[0], a[1], a[2], a[3]);
            case "cost":
                return model.cost(a[0], a[1]);
            case "ruleAt":
                return model.ruleAt(a[0], a[1]);
            case "cover":
                return model.cover(a[0], a[1]);
            case "pair":
                return model.pair(a[0], a[1]);
            case "states":
                return model.states();
            case "same":
                return model.same(a[0], a[1]);
            case "clear":
                return model.clear();
            default:
                return model.count(a[0]);
        }
    }
}
