import java.lang.reflect.InvocationTargetException;
import java.lang.reflect.Method;
import java.util.Map;
import java.util.TreeMap;

/**
 * Runs the boundary cases of one test class: every static method whose name begins with the given words. They
 * are found by their names, so that none that is written is forgotten to be called.
 */
final class Cases {
    private Cases() {
    }

    static void runAll(Class<?> tests, String named) {
        Map<String, Method> cases = new TreeMap<>();
        for (Method method : tests.getDeclaredMethods()) {
            if (method.getName().startsWith(named + "_")) {
                cases.put(method.getName(), method);
            }
        }
        Due.that(tests.getName() + " has cases of " + named, !cases.isEmpty());
        for (Method method : cases.values()) {
            run(method);
        }
        System.out.println(cases.size() + " cases of " + named);
        Due.end();
    }

    private static void run(Method method) {
        Due.inCase(method.getName());
        try {
            method.invoke(null);
        } catch (InvocationTargetException e) {
            Due.that("does not throw " + e.getCause(), false);
        } catch (IllegalAccessException e) {
            Due.that("can be called", false);
        }
    }
}
