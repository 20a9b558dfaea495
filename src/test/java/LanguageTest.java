import java.io.File;
import java.lang.reflect.Executable;
import java.lang.reflect.Field;
import java.lang.reflect.Method;
import java.lang.reflect.Modifier;
import java.nio.file.Files;
import java.nio.file.Path;
import java.util.ArrayList;
import java.util.Arrays;
import java.util.List;
import java.util.Set;
import java.util.TreeSet;
import java.util.regex.Matcher;
import java.util.regex.Pattern;

/** Those rules of LANGUAGE.md that can be read off the program's text and classes. Run from the project's root. */
public final class LanguageTest {
    private static final String[] FORBIDDEN = {
        "\\bthrow\\b", "\\bthrows\\b", "\\btry\\b", "\\bcatch\\b", "\\bsynchronized\\b", "\\bassert\\b", "->", "::",
        "\\bpackage\\b", "\\bequals\\b", "\\bhashCode\\b", "\\btoString\\b", "\\bRandom\\b", "\\bThread\\b",
        "\\bcurrentTimeMillis\\b", "\\bnanoTime\\b", "\\bwhile \\(true\\)", "for \\(;;\\)", "Exact\\b",
        "\\bvolatile\\b", "\\bnative\\b", "\\btransient\\b", "\\bObject\\b", "\\bOptional\\b", "\\bMap\\b",
    };
    private static final Set<String> LIBRARY = Set.of(
        "Math.max", "Math.min", "Math.abs", "Math.floorDiv", "Math.floorMod",
        "Arrays.copyOf", "Arrays.copyOfRange", "Arrays.fill", "System.arraycopy");
    private static final Set<String> CONSTANTS = Set.of(
        "int", "long", "boolean", "char", "java.lang.String", "[I", "[J", "[C", "[B");
    private static final int MOST_PARAMETERS = 7;
    private static final int MOST_CLASSES = 12;
    private static final int MOST_FIELDS = 20;
    private static final int MOST_LINES = 60;

    public static void main(String[] args) throws Exception {
        String text = withoutComments(Files.readString(Path.of("src/main/java/PageRescue.java")));
        for (String forbidden : FORBIDDEN) {
            Due.that("without " + forbidden, !Pattern.compile(forbidden).matcher(text).find());
        }
        importsAreListed(text);
        libraryIsListed(text);
        noStaticBlock(text);
        methodsAreShort(text);
        List<Class<?>> classes = new ArrayList<>(Arrays.asList(PageRescue.class.getDeclaredClasses()));
        classes.add(PageRescue.class);
        Due.that("rule 11: classes", classes.size() <= MOST_CLASSES);
        for (Class<?> type : classes) {
            fieldsKeepTheRules(type);
            methodsKeepTheRules(type);
        }
        noClassWithoutAName();
        Due.end();
    }

    private static String withoutComments(String text) {
        return text.replaceAll("(?s)/\\*.*?\\*/", "").replaceAll("//[^\n]*", "");
    }

    private static void importsAreListed(String text) {
        TreeSet<String> imports = new TreeSet<>();
        Matcher found = Pattern.compile("import ([^;]*);").matcher(text);
        while (found.find()) {
            imports.add(found.group(1));
        }
        imports.remove("java.util.ArrayList");
        imports.remove("java.util.List");
        imports.remove("java.util.Arrays");
        Due.same("rule 4: imports outside the list", imports.toString(), "[]");
    }

    private static void libraryIsListed(String text) {
        Matcher used = Pattern.compile("\\b(Math|Arrays|System|Integer|Long|Character|String)\\.\\w+").matcher(text);
        while (used.find()) {
            Due.that("rule 4: " + used.group() + " is listed", LIBRARY.contains(used.group()));
        }
    }

    private static void noStaticBlock(String text) {
        Due.that("rule 5: no static block", !Pattern.compile("\\bstatic\\s*\\{").matcher(text).find());
    }

    /** A method begins with a line that ends in ") {" and ends with the first line that has its indent and "}". */
    private static void methodsAreShort(String text) {
        Matcher method = Pattern.compile("(?ms)^( +)(?:\\w+ )*[\\w\\[\\]<>]+ ?\\w*\\([^)]*\\) \\{$.*?^\\1\\}$").matcher(text);
        int found = 0;
        while (method.find()) {
            found++;
            String first = method.group().lines().findFirst().orElse("").trim();
            Due.that("rule 11: short: " + first, method.group().lines().count() <= MOST_LINES);
        }
        Due.that("methods are found", found > 20);
    }

    private static void fieldsKeepTheRules(Class<?> type) {
        int own = 0;
        for (Field field : type.getDeclaredFields()) {
            if (!Modifier.isStatic(field.getModifiers())) {
                own++;
                continue;
            }
            Due.that("rule 5: final: " + field, Modifier.isFinal(field.getModifiers()));
            Due.that("rule 5: a constant: " + field, CONSTANTS.contains(field.getType().getName()));
        }
        Due.that("rule 11: fields of " + type, own <= MOST_FIELDS);
    }

    private static void methodsKeepTheRules(Class<?> type) {
        List<Executable> all = new ArrayList<>(Arrays.asList(type.getDeclaredConstructors()));
        for (Method method : type.getDeclaredMethods()) {
            all.add(method);
            boolean clash = type != PageRescue.class && isOfTheFace(method.getName());
            Due.that("rule 1: no other method bears the name: " + method, !clash);
        }
        for (Executable each : all) {
            Due.that("rule 11: parameters of " + each, each.getParameterCount() <= MOST_PARAMETERS);
        }
    }

    private static boolean isOfTheFace(String name) {
        for (Method method : PageRescue.class.getDeclaredMethods()) {
            if (Modifier.isPublic(method.getModifiers()) && method.getName().equals(name)) {
                return true;
            }
        }
        return false;
    }

    /** Local and anonymous classes are compiled to files with a digit after the dollar sign. */
    private static void noClassWithoutAName() throws Exception {
        File built = new File(PageRescue.class.getProtectionDomain().getCodeSource().getLocation().toURI());
        String[] files = built.list((directory, name) -> name.matches("PageRescue\\$(.*\\$)?\\d.*\\.class"));
        Due.same("rule 2: local or anonymous classes", Arrays.toString(files), "[]");
    }
}
