import java.lang.reflect.Constructor;
import java.lang.reflect.Field;
import java.lang.reflect.Member;
import java.lang.reflect.Method;
import java.lang.reflect.Modifier;
import java.util.Set;
import java.util.TreeSet;

/** The public face: the document's members and no other one. */
public final class FaceTest {
    private static final String STATE = "IllegalStateException ";
    private static final String ARGUMENT = "IllegalArgumentException ";
    private static final String INDEX = "IndexOutOfBoundsException ";

    public static void main(String[] args) {
        Check.due("NONE", TreeMatcher.NONE, -1);
        Check.due("public final class", TreeMatcher.class.getModifiers(), Modifier.PUBLIC | Modifier.FINAL);
        Set<String> want = Set.of(
                "int NONE", "TreeMatcher()",
                "int operator(int, int) " + ARGUMENT + STATE,
                "int element(int) " + ARGUMENT + STATE,
                "int rule(int, int, int, int) " + STATE + ARGUMENT,
                "int node(int, int, int, int) " + ARGUMENT + STATE,
                "int cost(int, int) " + INDEX,
                "int ruleAt(int, int) " + INDEX,
                "int cover(int, int) " + INDEX + STATE,
                "int pair(int, int) " + INDEX,
                "int states() " + STATE,
                "boolean same(int, int) " + INDEX,
                "int clear() ",
                "int count(int) " + INDEX);
        Set<String> got = face();
        for (String member : want) {
            Check.due("there is " + member, got.contains(member), true);
        }
        for (String member : got) {
            Check.due("the document has " + member, want.contains(member), true);
        }
        Check.end();
    }

    private static Set<String> face() {
        Set<String> found = new TreeSet<>();
        for (Field f : TreeMatcher.class.getDeclaredFields()) {
            if (isSeen(f)) {
                found.add(f.getType() + " " + f.getName());
            }
        }
        for (Constructor<?> c : TreeMatcher.class.getDeclaredConstructors()) {
            if (isSeen(c)) {
                found.add("TreeMatcher(" + listed(c.getParameterTypes(), ", ") + ")");
            }
        }
        for (Method m : TreeMatcher.class.getDeclaredMethods()) {
            if (isSeen(m)) {
                StringBuilder thrown = new StringBuilder();
                for (Class<?> e : m.getExceptionTypes()) {
                    thrown.append(e.getSimpleName()).append(' ');
                }
                found.add(m.getReturnType() + " " + m.getName() + "(" + listed(m.getParameterTypes(), ", ") + ") "
                        + thrown);
            }
        }
        return found;
    }

    private static boolean isSeen(Member member) {
        return !Modifier.isPrivate(member.getModifiers()) && !member.isSynthetic();
    }

    private static String listed(Class<?>[] types, String between) {
        StringBuilder list = new StringBuilder();
        for (Class<?> type : types) {
            list.append(list.length() == 0 ? "" : between).append(type);
        }
        return list.toString();
    }
}
