import java.io.IOException;
import java.nio.file.Files;
import java.nio.file.Path;
import java.util.Set;
import java.util.TreeSet;
import java.util.stream.Stream;

/** README.md: its example answers what its remarks say, and it tells every call of the face and every test. */
public final class ReadmeTest {
    public static void main(String[] args) throws IOException {
        example();
        String readme = Files.readString(Path.of("README.md"));
        for (String name : names()) {
            Check.due("README.md tells `" + name + "`", readme.contains("`" + name), true);
        }
        Check.end();
    }

    private static void example() {
        TreeMatcher x = new TreeMatcher();
        Check.due("a leaf", x.operator(0, 0), 1);
        Check.due("an operator with two kids", x.operator(1, 2), 2);
        Check.due("reg: CNST", Check.rule(x, 0, 1, 0), 0);
        Check.due("con: CNST with limits", Check.limited(x, 1, 0, 0, 255, 0), 1);
        Check.due("reg: ADD(reg, con)", Check.rule(x, 0, 1, 1, 32, 33), 2);
        int a = Check.leaf(x, 1000);
        int b = Check.leaf(x, 8);
        int sum = x.node(1, 0, a, b);
        Check.due("cost(a, 1)", x.cost(a, 1), TreeMatcher.NONE);
        Check.due("cost(sum, 0)", x.cost(sum, 0), 2);
        Check.due("ruleAt(sum, 0)", x.ruleAt(sum, 0), 2);
        Check.due("cover(sum, 0)", x.cover(sum, 0), 3);
        int[][] pairs = {{a, 0}, {b, 1}, {sum, 2}};
        for (int k = 0; k < pairs.length; k++) {
            Check.due("pair(" + k + ", 0)", x.pair(k, 0), pairs[k][0]);
            Check.due("pair(" + k + ", 1)", x.pair(k, 1), pairs[k][1]);
        }
        Check.due("same(a, b)", x.same(a, b), true);
        Check.wrongState("states() with limits", x::states);
        Check.due("clear()", x.clear(), 3);

        TreeMatcher y = new TreeMatcher();
        y.operator(0, 0);
        y.operator(1, 2);
        Check.rule(y, 0, 1, 0);
        Check.rule(y, 1, 0, 0);
        Check.rule(y, 0, 1, 1, 32, 33);
        Check.due("states() without limits", y.states(), 3);
    }

    private static Set<String> names() throws IOException {
        Set<String> names = new TreeSet<>();
        for (var method : TreeMatcher.class.getMethods()) {
            if (method.getDeclaringClass() == TreeMatcher.class) {
                names.add(method.getName() + "(");
            }
        }
        try (Stream<Path> files = Files.list(Path.of("src/test/java"))) {
            files.map(file -> file.getFileName().toString().replace(".java", "")).filter(name -> name.endsWith("Test"))
                    .forEach(names::add);
        }
        return names;
    }
}
