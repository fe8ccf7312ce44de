import java.lang.reflect.Constructor;
import java.lang.reflect.Field;
import java.lang.reflect.Method;
import java.lang.reflect.Modifier;
import java.util.Set;
import java.util.TreeSet;

/** The public face is the document's and no more, and its private methods bear other names. */
public final class FaceTest {
    private static final String[] FACE = {
        "void font(int,int,int,int,long,long,int) IllegalArgumentException IllegalStateException",
        "void width(int,int,int) IllegalArgumentException", "void count(int,int) IllegalArgumentException",
        "void begin(int,int) IllegalArgumentException",
        "int put(int,int,int,int) IllegalArgumentException UnsupportedOperationException",
        "int rule(int,int,int,int) IllegalArgumentException UnsupportedOperationException",
        "int ship() IllegalStateException ArithmeticException UnsupportedOperationException",
        "int close() IllegalStateException", "int size()", "int out(int) IndexOutOfBoundsException",
        "boolean feed(long,int)", "boolean keep(int)", "int copy()", "int read()",
        "int about(int) IndexOutOfBoundsException", "int mark(int,int) IndexOutOfBoundsException",
        "int page(int,int) IndexOutOfBoundsException", "int told(int,int) IndexOutOfBoundsException"};

    public static void main(String[] args) {
        Set<String> due = new TreeSet<>(Set.of(FACE));
        Set<String> got = new TreeSet<>();
        Set<String> publicNames = new TreeSet<>();
        for (Method m : DviBytes.class.getDeclaredMethods()) {
            if (Modifier.isPublic(m.getModifiers())) {
                got.add(signature(m));
                publicNames.add(m.getName());
            }
        }
        Expect.same("public methods", due, () -> got);
        for (Method m : DviBytes.class.getDeclaredMethods()) {
            boolean hidden = Modifier.isPrivate(m.getModifiers()) && !publicNames.contains(m.getName());
            Expect.same(m.getName() + " is public, or private under another name", true,
                    () -> Modifier.isPublic(m.getModifiers()) || hidden);
        }
        for (Field f : DviBytes.class.getDeclaredFields()) {
            Expect.same(f + " is private, or NONE", true, () -> Modifier.isPrivate(f.getModifiers())
                    || f.toString().equals("public static final int DviBytes.NONE"));
        }
        Constructor<?>[] made = DviBytes.class.getDeclaredConstructors();
        Expect.same("constructors", 1, () -> made.length);
        Expect.same("the constructor is public", true, () -> Modifier.isPublic(made[0].getModifiers()));
        Expect.same("the class is public and final", Modifier.PUBLIC | Modifier.FINAL,
                () -> DviBytes.class.getModifiers());
        Expect.same("NONE", -1, () -> DviBytes.NONE);
        Expect.end();
    }

    private static String signature(Method m) {
        StringBuilder text = new StringBuilder(m.getReturnType().getName() + " " + m.getName() + "(");
        Class<?>[] types = m.getParameterTypes();
        for (int i = 0; i < types.length; i++) {
            text.append(i > 0 ? "," : "").append(types[i].getName());
        }
        text.append(")");
        for (Class<?> thrown : m.getExceptionTypes()) {
            text.append(" ").append(thrown.getSimpleName());
        }
        return text.toString();
    }
}
