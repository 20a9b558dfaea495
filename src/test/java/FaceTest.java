import java.lang.reflect.Constructor;
import java.lang.reflect.Executable;
import java.lang.reflect.Field;
import java.lang.reflect.Member;
import java.lang.reflect.Method;
import java.lang.reflect.Modifier;
import java.util.ArrayList;
import java.util.List;
import java.util.TreeSet;

/** The public face: the document's constants, constructor and methods, line by line, and no other visible member. */
public final class FaceTest {
    /** The lines of the document's face between its first and its last. */
    static final List<String> LINES = List.of(
        "public static final int DONE = 0;",
        "public static final int REFUSED = -1;",
        "public static final int FULL = -2;",
        "public static final int GONE = -3;",
        "public static final long NONE = -1000000000000L;",
        "public static final long ABSENT = 1000000000000L;",
        "public PageRescue(int size, int keep);",
        "public int begin();",
        "public int put(int key, int value, boolean present);",
        "public int commit();",
        "public int abort();",
        "public long get(int key);",
        "public int write(int page);",
        "public int archive();",
        "public int backup(boolean full);",
        "public int step(int n);",
        "public int crash(int page);",
        "public int lose();",
        "public int restore(int commit);",
        "public long look(int key);",
        "public int page(int page, int what);",
        "public int ofBackup(int number, int what);",
        "public int count(int what);");

    public static void main(String[] args) throws Exception {
        Class<?> type = PageRescue.class;
        Due.same("the class", Modifier.toString(type.getModifiers()) + " " + type.getName(), "public final PageRescue");
        Due.same("what it extends", type.getSuperclass().getName() + type.getInterfaces().length, "java.lang.Object0");
        Due.same("the face", visible(type).toString(), due().toString());
        noNameTwice(type);
        nestedClassesAreStatic(type);
        Due.end();
    }

    /** The names of parameters are not to be seen in the class, so they are left out. */
    private static TreeSet<String> due() {
        TreeSet<String> lines = new TreeSet<>();
        for (String line : LINES) {
            lines.add(line.replaceAll("(int|boolean) \\w+(?=[,)])", "$1"));
        }
        return lines;
    }

    private static TreeSet<String> visible(Class<?> type) throws Exception {
        TreeSet<String> seen = new TreeSet<>();
        for (Field f : type.getDeclaredFields()) {
            if (isVisible(f)) {
                String end = f.getType() == long.class ? "L;" : ";";
                seen.add(Modifier.toString(f.getModifiers()) + " " + f.getType() + " " + f.getName() + " = " + f.get(null) + end);
            }
        }
        for (Constructor<?> c : type.getDeclaredConstructors()) {
            if (isVisible(c)) {
                seen.add(Modifier.toString(c.getModifiers()) + " PageRescue" + parameters(c) + ";");
            }
        }
        for (Method m : type.getDeclaredMethods()) {
            if (isVisible(m)) {
                seen.add(Modifier.toString(m.getModifiers()) + " " + m.getReturnType() + " " + m.getName() + parameters(m) + ";");
            }
        }
        return seen;
    }

    private static String parameters(Executable called) {
        List<String> types = new ArrayList<>();
        for (Class<?> type : called.getParameterTypes()) {
            types.add(type.getName());
        }
        String thrown = called.getExceptionTypes().length == 0 ? "" : " throws";
        return "(" + String.join(", ", types) + ")" + thrown;
    }

    private static boolean isVisible(Member m) {
        return !Modifier.isPrivate(m.getModifiers()) && !m.isSynthetic();
    }

    private static void noNameTwice(Class<?> type) {
        for (Method open : type.getMethods()) {
            for (Method own : type.getDeclaredMethods()) {
                boolean clash = Modifier.isPrivate(own.getModifiers()) && own.getName().equals(open.getName());
                Due.that("no private method bears the name " + open.getName(), !clash);
            }
        }
    }

    private static void nestedClassesAreStatic(Class<?> type) {
        for (Class<?> nested : type.getDeclaredClasses()) {
            int modifiers = nested.getModifiers();
            Due.that(nested + " is static", Modifier.isStatic(modifiers));
            Due.that(nested + " is hidden", !Modifier.isPublic(modifiers) && !Modifier.isProtected(modifiers));
        }
    }
}
