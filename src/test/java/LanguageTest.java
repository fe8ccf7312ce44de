import java.io.IOException;
import java.lang.reflect.Array;
import java.lang.reflect.Field;
import java.lang.reflect.Method;
import java.lang.reflect.Modifier;
import java.nio.file.Path;
import java.util.ArrayList;
import java.util.IdentityHashMap;
import java.util.List;
import java.util.Map;
import java.util.Set;
import java.util.regex.Matcher;
import java.util.regex.Pattern;

/** Those rules of LANGUAGE.md that can be seen in the source, in the classes, or in an object's rows. */
public final class LanguageTest {
    private static final Path SOURCE = Path.of("src/main/java/DviBytes.java");
    private static final Set<Class<?>> ROWS = Set.of(int[].class, long[].class, byte[].class, boolean[].class);

    public static void main(String[] args) throws IOException, IllegalAccessException {
        String code = withoutTextsAndComments(java.nio.file.Files.readString(SOURCE));
        wordsThatMayNotStand(code);
        whatIsThrown(code);
        methodsAreShort(code);
        List<Class<?>> all = new ArrayList<>(List.of(DviBytes.class.getDeclaredClasses()));
        all.add(DviBytes.class);
        Expect.same("twelve classes at most", true, () -> all.size() <= 12);
        for (Class<?> c : all) {
            membersOf(c);
        }
        rowsAreMadeOnce();
        Expect.end();
    }

    private static String withoutTextsAndComments(String source) {
        return source.replaceAll("\"[^\"\n]*\"", "\"\"").replaceAll("(?s)/\\*.*?\\*/", "").replaceAll("//.*", "");
    }

    private static void wordsThatMayNotStand(String code) {
        String[] words = {"import", "package", "try", "catch", "finally", "synchronized", "assert", "native",
            "volatile", "protected", "yield", "Object", "Thread", "Random"};
        for (String word : words) {
            Expect.same("the word " + word, false, () -> Pattern.compile("\\b" + word + "\\b").matcher(code).find());
        }
        for (String sign : new String[] {"->", "::", "Exact(", "\"\" +", "+ \"\"", "static {", "@"}) {
            Expect.same("the sign " + sign, false, () -> code.contains(sign));
        }
    }

    /* The classes inside never throw, so that a call of the face throws before it has changed anything. */
    private static void whatIsThrown(String code) {
        int inside = code.indexOf("private static final class");
        Expect.same("a throw inside another class", false, () -> code.substring(inside).contains("throw "));
        Matcher thrown = Pattern.compile("throw (.*);").matcher(code);
        while (thrown.find()) {
            String what = thrown.group(1);
            Expect.same("throw " + what, true, () -> what.matches("new (IllegalState|IllegalArgument|"
                    + "IndexOutOfBounds|Arithmetic|UnsupportedOperation)Exception\\(\"\"\\)"));
        }
    }

    private static void methodsAreShort(String code) {
        int start = -1;
        String[] lines = code.split("\n");
        for (int i = 0; i < lines.length; i++) {
            if (lines[i].matches(" {4}( {4})?[a-zA-Z].*\\) *(throws .*)?\\{")) {
                start = i;
            } else if (lines[i].matches(" {4}( {4})?\\}") && start >= 0) {
                String name = lines[start].trim();
                int length = i - start;
                Expect.same("sixty lines at most: " + name, true, () -> length <= 60);
                start = -1;
            }
        }
    }

    private static void membersOf(Class<?> c) {
        int own = 0;
        for (Field f : c.getDeclaredFields()) {
            int is = f.getModifiers();
            Expect.same(f + " is final if it is static", true, () -> !Modifier.isStatic(is) || Modifier.isFinal(is));
            Expect.same(f + " is private, or NONE", true, () -> Modifier.isPrivate(is) || f.getName().equals("NONE"));
            own += Modifier.isStatic(is) ? 0 : 1;
        }
        int fields = own;
        Expect.same(c + " has some twenty fields at most", true, () -> fields <= 20);
        for (Method m : c.getDeclaredMethods()) {
            Expect.same(m + " has seven parameters at most", true, () -> m.getParameterCount() <= 7);
        }
        int is = c.getModifiers();
        boolean inside = c != DviBytes.class;
        Expect.same(c + " is static and not public", inside, () -> Modifier.isStatic(is) && !Modifier.isPublic(is));
    }

    private static void rowsAreMadeOnce() throws IllegalAccessException {
        DviBytes x = new DviBytes();
        long before = elements(x, new IdentityHashMap<>());
        x.font(1, 2, 3, 4, 'a', 0, 1);
        x.width(1, 65, 10);
        x.count(3, 7);
        x.begin(9, 9);
        for (int i = 0; i < 500; i++) {
            x.put(1, 65 + i % 3, 20 * i, 30 * i);
        }
        x.ship();
        x.close();
        x.copy();
        Expect.same("read", 0, x::read);
        long after = elements(x, new IdentityHashMap<>());
        Expect.same("elements behind calls of all kinds", before, () -> after);
        Expect.same("some 310,000 elements", true, () -> before > 300000 && before < 320000);
    }

    /** How many elements the rows have that an object holds, each row once. */
    private static long elements(Object of, Map<Object, Object> seen) throws IllegalAccessException {
        if (of == null || seen.put(of, of) != null) {
            return 0;
        }
        if (of.getClass().isArray()) {
            Expect.same("a row of numbers", true, () -> ROWS.contains(of.getClass()));
            return Array.getLength(of);
        }
        long sum = 0;
        for (Field f : of.getClass().getDeclaredFields()) {
            if (!Modifier.isStatic(f.getModifiers()) && !f.getType().isPrimitive()) {
                f.setAccessible(true);
                sum += elements(f.get(of), seen);
            }
        }
        return sum;
    }
}
