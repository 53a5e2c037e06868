import java.io.IOException;
import java.lang.reflect.Field;
import java.lang.reflect.Method;
import java.lang.reflect.Modifier;
import java.nio.file.Files;
import java.nio.file.Path;
import java.util.Arrays;
import java.util.List;
import java.util.Set;
import java.util.TreeSet;
import java.util.regex.Matcher;
import java.util.regex.Pattern;

/** The rules of LANGUAGE.md that can be seen in the source text or on the compiled class. */
public final class RulesTest {
    private static final String FACE = """
        int feed(int, int, int, int, int)
        int back(int)
        int read()
        int place()
        int book(int, int)
        int level(int)
        int load(int)
        long point(int, boolean)
        boolean stands()
        int tips(int)
        int over()
        int lay(int, int, boolean)
        int lift()
        boolean move(int, int)
        boolean undo()
        int bears(int, int)
        int holds(int, int)
        int pushed(int)
        int takings()
        int slides(int, boolean)
        int out(int)
        long reach(int, boolean)
        int bestOrder(int)
        long alike(int, boolean)
        int needed(int, int)
        int see(boolean)
        int forget()
        int fits(int, int)
        int span(int, int, int)
        boolean hold(int)
        boolean restore(int)
        int count(int)
        """;
    private static int wrong = 0;

    public static void main(String[] args) throws IOException {
        face();
        for (Class<?> inner : EdgePile.class.getDeclaredClasses()) inside(inner);
        check("12 classes at most", EdgePile.class.getDeclaredClasses().length <= 12);
        members(EdgePile.class);
        source(Files.readString(Path.of(System.getProperty("project.root", "."), "src/main/java/EdgePile.java")));
        System.out.println("rules broken: " + wrong);
        if (wrong != 0) System.exit(1);
    }

    private static void check(String rule, boolean kept) {
        if (!kept) {
            wrong++;
            System.out.println("broken: " + rule);
        }
    }

    private static void face() {
        Set<String> seen = new TreeSet<>();
        for (Method m : EdgePile.class.getDeclaredMethods()) {
            if (Modifier.isPrivate(m.getModifiers())) continue;
            check("public: " + m, m.getModifiers() == Modifier.PUBLIC);
            String types = Arrays.toString(Arrays.stream(m.getParameterTypes()).map(Class::getName).toArray());
            seen.add(m.getReturnType().getName() + " " + m.getName() + "("
                + types.substring(1, types.length() - 1) + ")");
        }
        check("the face's methods " + seen, seen.equals(new TreeSet<>(FACE.lines().toList())));
        check("the class", EdgePile.class.getModifiers() == (Modifier.PUBLIC | Modifier.FINAL));
        check("one constructor", EdgePile.class.getDeclaredConstructors().length == 1
            && EdgePile.class.getConstructors().length == 1);
        List<String> visible = Arrays.stream(EdgePile.class.getDeclaredFields())
            .filter(f -> !Modifier.isPrivate(f.getModifiers())).map(Field::getName).toList();
        check("the constant", visible.equals(List.of("NONE")) && EdgePile.NONE == -1);
    }

    private static void inside(Class<?> inner) {
        check("static and private: " + inner, Modifier.isStatic(inner.getModifiers())
            && Modifier.isPrivate(inner.getModifiers()));
        check("no class inside " + inner, inner.getDeclaredClasses().length == 0);
        for (Method m : inner.getDeclaredMethods()) {
            check("a name of the face: " + m, !FACE.contains(" " + m.getName() + "("));
        }
        members(inner);
    }

    private static void members(Class<?> one) {
        int fields = 0;
        for (Field field : one.getDeclaredFields()) {
            boolean isStatic = Modifier.isStatic(field.getModifiers());
            fields += isStatic ? 0 : 1;
            check("static fields are final constants: " + field, !isStatic || Modifier.isFinal(field.getModifiers())
                && (field.getType().isPrimitive() || field.getType() == String.class));
        }
        check("some twenty fields: " + one, fields <= 20);
        for (Method m : one.getDeclaredMethods()) {
            check("seven parameters: " + m, m.getParameterCount() <= 7);
            check("no synthetic method: " + m, !m.isSynthetic());
        }
    }

    private static void source(String text) {
        String bare = text.replaceAll("(?s)/\\*.*?\\*/", " ").replaceAll("//[^\n]*", " ")
            .replaceAll("\"(\\\\.|[^\"\\\\\n])*\"", "\"\"");
        for (String word : List.of("throw", "throws", "try", "catch", "synchronized", "assert", "import", "package",
            "instanceof", "Random", "System", "Thread", "yield", "var", "equals", "hashCode", "toString", "double",
            "float", "null")) {
            check("no " + word, !Pattern.compile("\\b" + word + "\\b").matcher(bare).find());
        }
        for (String sign : List.of("->", "::", "@")) check("no " + sign, !bare.contains(sign));
        check("no names that end in Exact", !Pattern.compile("\\w+Exact\\b").matcher(bare).find());
        check("no endless loop", !Pattern.compile("while \\(true\\)|for \\(;;\\)").matcher(bare).find());
        Matcher method = Pattern.compile("(?ms)^( {4}| {8})(public|private) [^=;{]*\\{\n(.*?)^\\1\\}$").matcher(text);
        while (method.find()) {
            if (method.group().contains(" class ")) {
                method.region(method.start(3), text.length());
                continue;
            }
            check("some sixty lines: " + method.group().lines().findFirst().orElse(""),
                method.group().lines().count() <= 60);
        }
    }
}
