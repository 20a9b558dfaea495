import java.lang.reflect.Constructor;
import java.lang.reflect.Field;
import java.lang.reflect.Member;
import java.lang.reflect.Method;
import java.lang.reflect.Modifier;
import java.util.Arrays;
import java.util.Set;
import java.util.TreeSet;

/** The public face: the document's constants, constructor and methods, and no other visible member. */
public final class FaceTest {
    private static final String[] FACE = {
        "field DONE int 0", "field REFUSED int -1", "field FULL int -2", "field GONE int -3",
        "field NONE long -1000000000000", "field ABSENT long 1000000000000",
        "constructor [int, int]",
        "int begin []", "int put [int, int, boolean]", "int commit []", "int abort []", "long get [int]",
        "int write [int]", "int archive []", "int backup [boolean]", "int step [int]", "int crash [int]",
        "int lose []", "int restore [int]", "long look [int]", "int page [int, int]",
        "int ofBackup [int, int]", "int count [int]",
    };

    public static void main(String[] args) throws Exception {
        Class<?> type = PageRescue.class;
        Due.that("public and final", Modifier.isPublic(type.getModifiers()) && Modifier.isFinal(type.getModifiers()));
        Due.same("the face", visible(type).toString(), new TreeSet<>(Arrays.asList(FACE)).toString());
        noNameTwice(type);
        nestedClassesAreStatic(type);
        Due.end();
    }

    private static Set<String> visible(Class<?> type) throws Exception {
        Set<String> seen = new TreeSet<>();
        for (Field f : type.getDeclaredFields()) {
            if (isVisible(f)) {
                seen.add("field " + f.getName() + " " + f.getType() + " " + f.get(null));
            }
        }
        for (Constructor<?> c : type.getDeclaredConstructors()) {
            if (isVisible(c)) {
                seen.add("constructor " + Arrays.toString(c.getParameterTypes()));
            }
        }
        for (Method m : type.getDeclaredMethods()) {
            if (isVisible(m)) {
                seen.add(m.getReturnType() + " " + m.getName() + " " + Arrays.toString(m.getParameterTypes()));
            }
        }
        return seen;
    }

    private static boolean isVisible(Member m) {
        return !Modifier.isPrivate(m.getModifiers()) && !m.isSynthetic();
    }

    private static void noNameTwice(Class<?> type) {
        for (Method open : type.getMethods()) {
            for (Method own : type.getDeclaredMethods()) {
                boolean clash = Modifier.isPrivate(own.getModifiers()) && own.getName().equals(open.getName());
                Due.that("no private method bears the name " + open.getName(), !clash);
            }
        }
    }

    private static void nestedClassesAreStatic(Class<?> type) {
        for (Class<?> nested : type.getDeclaredClasses()) {
            int modifiers = nested.getModifiers();
            Due.that(nested + " is static", Modifier.isStatic(modifiers));
            Due.that(nested + " is hidden", !Modifier.isPublic(modifiers) && !Modifier.isProtected(modifiers));
        }
    }
}
