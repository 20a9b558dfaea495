import java.lang.reflect.Field;
import java.lang.reflect.InvocationTargetException;
import java.lang.reflect.Method;
import java.lang.reflect.Modifier;
import java.nio.file.Files;
import java.nio.file.Path;
import java.util.ArrayList;
import java.util.List;
import java.util.Set;
import java.util.TreeSet;
import java.util.regex.Matcher;
import java.util.regex.Pattern;
import java.util.stream.Stream;

/** README.md: that the program gives the answers that it tells, and that it names every test. Run from the root. */
public final class ReadmeTest {
    private static final Pattern BLOCK = Pattern.compile("(?s)```java\n(.*?)```");
    private static final Pattern MADE = Pattern.compile("PageRescue x = new PageRescue\\((-?\\d+), (-?\\d+)\\);\\s+// .*");
    private static final Pattern CALL = Pattern.compile("x\\.(\\w+)\\(([^()]*)\\);\\s+// (-?\\d+|[A-Z]+)(: .*)?");
    private static final Pattern TEST = Pattern.compile("`(\\w+Test)`");
    private static final Pattern RANGE = Pattern.compile("`Boundary01NewObjectTest` \\.\\. `Boundary17CountTest`");

    private final Set<String> methodsShown = new TreeSet<>();
    private final Set<String> constantsShown = new TreeSet<>();
    private PageRescue x = null;

    public static void main(String[] args) throws Exception {
        String text = Files.readString(Path.of("README.md"));
        ReadmeTest test = new ReadmeTest();
        test.runTheUse(text);
        test.allIsShown();
        testsAreNamed(text);
        Due.that("README.md tells how to run the tests", text.contains("\n    .ci/run\n"));
        Due.that(".ci/run can be run", Files.isExecutable(Path.of(".ci/run")));
        Due.end();
    }

    private void runTheUse(String text) throws Exception {
        Matcher block = BLOCK.matcher(text);
        while (block.find()) {
            for (String line : block.group(1).split("\n")) {
                runLine(line);
            }
        }
    }

    private void runLine(String line) throws Exception {
        Matcher made = MADE.matcher(line);
        Matcher call = CALL.matcher(line);
        if (made.matches()) {
            x = new PageRescue(Integer.parseInt(made.group(1)), Integer.parseInt(made.group(2)));
        } else if (call.matches()) {
            Due.same(line, answered(call.group(1), call.group(2)), told(call.group(3)));
        } else {
            Due.that("is a call with its answer: " + line, false);
        }
    }

    private long answered(String name, String arguments) throws Exception {
        for (Method method : PageRescue.class.getMethods()) {
            if (method.getName().equals(name) && method.getDeclaringClass() == PageRescue.class) {
                methodsShown.add(name);
                return invoked(method, arguments);
            }
        }
        throw new IllegalArgumentException("README.md calls " + name + ", which there is not");
    }

    private long invoked(Method method, String arguments) throws IllegalAccessException, InvocationTargetException {
        List<Object> given = new ArrayList<>();
        for (String argument : arguments.isEmpty() ? new String[0] : arguments.split(", ")) {
            boolean isTruth = argument.equals("true") || argument.equals("false");
            given.add(isTruth ? (Object) Boolean.valueOf(argument) : (Object) Integer.valueOf(argument));
        }
        return ((Number) method.invoke(x, given.toArray())).longValue();
    }

    private long told(String answer) throws Exception {
        if (!Character.isLetter(answer.charAt(0))) {
            return Long.parseLong(answer);
        }
        constantsShown.add(answer);
        Field constant = PageRescue.class.getField(answer);
        return ((Number) constant.get(null)).longValue();
    }

    private void allIsShown() {
        for (Method method : PageRescue.class.getDeclaredMethods()) {
            boolean isOpen = Modifier.isPublic(method.getModifiers());
            Due.that("README.md shows " + method.getName(), !isOpen || methodsShown.contains(method.getName()));
        }
        for (Field constant : PageRescue.class.getFields()) {
            Due.that("README.md shows " + constant.getName(), constantsShown.contains(constant.getName()));
        }
    }

    private static void testsAreNamed(String text) throws Exception {
        Set<String> named = new TreeSet<>();
        Matcher test = TEST.matcher(text);
        while (test.find()) {
            named.add(test.group(1));
        }
        boolean boundaries = RANGE.matcher(text).find();
        Set<String> there = new TreeSet<>();
        try (Stream<Path> files = Files.list(Path.of("src/test/java"))) {
            files.map(file -> file.getFileName().toString()).filter(name -> name.endsWith("Test.java"))
                .forEach(name -> there.add(name.substring(0, name.length() - ".java".length())));
        }
        if (boundaries) {
            named.removeIf(name -> name.matches("Boundary\\d\\d.*"));
            there.removeIf(name -> name.matches("Boundary\\d\\d.*"));
        }
        Due.same("the tests that README.md names", named.toString(), there.toString());
    }
}
