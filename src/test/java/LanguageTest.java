import java.io.IOException;
import java.lang.reflect.Executable;
import java.lang.reflect.Field;
import java.lang.reflect.Method;
import java.lang.reflect.Modifier;
import java.nio.file.Files;
import java.nio.file.Path;
import java.util.ArrayList;
import java.util.HashSet;
import java.util.List;
import java.util.Set;
import java.util.regex.Matcher;
import java.util.regex.Pattern;

/** LANGUAGE.md: those of its rules that can be seen in the text of the class, or by reflection. */
public final class LanguageTest {
    private static final Set<String> LIBRARY = Set.of("Arrays.fill", "Arrays.copyOf", "Arrays.copyOfRange",
            "System.arraycopy", "Math.min", "Math.max", "Integer.MIN_VALUE", "Integer.MAX_VALUE");
    private static final Set<String> THROWN = Set.of("IllegalStateException", "IllegalArgumentException",
            "IndexOutOfBoundsException");
    private static final List<String> KEPT_OUT = List.of("->", "::", "\\btry\\b", "\\bcatch\\b", "\\bfinally\\b",
            "\\bsynchronized\\b", "\\bassert\\b", "\\bvar\\b", "\\bpackage\\b", "\\bhashCode\\b", "\\btoString\\b",
            "\\w+Exact\\b", "\\bdouble\\b", "\\bfloat\\b", "\\bstatic\\s*\\{", "\\bjava\\.(?!util\\.Arrays;)");

    public static void main(String[] args) throws IOException {
        String whole = Files.readString(Path.of("src/main/java/TreeMatcher.java"));
        Check.due("characters are ASCII", whole.chars().allMatch(c -> c < 128), true);
        Check.due("the long lines", whole.lines().filter(line -> line.length() > 120).count(), 0);
        String code = whole.replaceAll("(?s)/\\*.*?\\*/", "").replaceAll("//.*", "").replaceAll("\"[^\"\n]*\"", "\"\"");
        text(code);
        List<Class<?>> classes = new ArrayList<>(List.of(TreeMatcher.class.getDeclaredClasses()));
        for (Class<?> inside : classes) {
            int seen = inside.getModifiers() & (Modifier.PUBLIC | Modifier.PROTECTED);
            Check.due(inside + " is static", Modifier.isStatic(inside.getModifiers()), true);
            Check.due(inside + " is seen outside", seen != 0, false);
        }
        classes.add(TreeMatcher.class);
        Check.due("at most twelve classes", classes.size() <= 12, true);
        for (Class<?> one : classes) {
            fields(one, classes);
            methods(one);
        }
        Check.end();
    }

    private static void text(String code) {
        for (String kept : KEPT_OUT) {
            Matcher found = Pattern.compile(kept).matcher(code);
            Check.due("kept out: " + kept, found.find() ? found.group() : "nothing", "nothing");
        }
        Matcher library = Pattern.compile("\\b(Arrays|System|Math|Integer|Long|String|List)\\.\\w+").matcher(code);
        while (library.find()) {
            Check.due("the library has " + library.group(), LIBRARY.contains(library.group()), true);
        }
        Matcher thrown = Pattern.compile("\\bthrow\\b(?! new \\w+\\((?:\"\")?\\);)|\\bthrow new (\\w+)").matcher(code);
        while (thrown.find()) {
            Check.due(thrown.group(), thrown.group(1) != null && THROWN.contains(thrown.group(1)), true);
        }
    }

    private static void fields(Class<?> one, List<Class<?>> own) {
        int held = 0;
        for (Field field : one.getDeclaredFields()) {
            boolean isStatic = Modifier.isStatic(field.getModifiers());
            Class<?> type = field.getType();
            Class<?> basic = type.isArray() ? type.getComponentType() : type;
            Class<?> number = basic.isArray() ? basic.getComponentType() : basic;
            held += isStatic ? 0 : 1;
            Check.due(field + " is of a type that is left", number.isPrimitive() || own.contains(basic), true);
            Check.due(field + " is seen", isSeen(field.getModifiers()), field.getName().equals("NONE"));
            Check.due(field + " is a constant if static", !isStatic || isConstant(field), true);
        }
        Check.due(one + " has at most twenty fields", held <= 20, true);
    }

    private static boolean isConstant(Field field) {
        return Modifier.isFinal(field.getModifiers()) && field.getType().isPrimitive();
    }

    private static boolean isSeen(int modifiers) {
        return !Modifier.isPrivate(modifiers);
    }

    private static void methods(Class<?> one) {
        Set<String> face = new HashSet<>();
        List<Executable> all = new ArrayList<>(List.of(one.getDeclaredConstructors()));
        for (Method method : TreeMatcher.class.getDeclaredMethods()) {
            if (Modifier.isPublic(method.getModifiers())) {
                face.add(method.getName());
            }
        }
        for (Method method : one.getDeclaredMethods()) {
            all.add(method);
            boolean clash = Modifier.isPrivate(method.getModifiers()) && face.contains(method.getName());
            Check.due(method + " bears a public one's name", clash, false);
        }
        for (Executable each : all) {
            Check.due(each + " has at most seven parameters", each.getParameterCount() <= 7, true);
        }
    }
}
