import java.nio.file.Files;
import java.nio.file.Path;
import java.util.TreeSet;
import java.util.regex.Matcher;
import java.util.regex.Pattern;

/** Those rules of LANGUAGE.md that can be read off the text of the program. Run from the project's root. */
public final class LanguageTest {
    private static final String[] FORBIDDEN = {
        "\\bthrow\\b", "\\bthrows\\b", "\\btry\\b", "\\bcatch\\b", "\\bsynchronized\\b", "\\bassert\\b", "->", "::",
        "\\bpackage\\b", "\\bequals\\b", "\\bhashCode\\b", "\\btoString\\b", "\\bRandom\\b", "\\bThread\\b",
        "\\bcurrentTimeMillis\\b", "\\bnanoTime\\b", "\\bwhile \\(true\\)", "for \\(;;\\)", "Exact\\b",
    };

    public static void main(String[] args) throws Exception {
        String text = withoutComments(Files.readString(Path.of("src/main/java/PageRescue.java")));
        for (String forbidden : FORBIDDEN) {
            Due.that("without " + forbidden, !Pattern.compile(forbidden).matcher(text).find());
        }
        importsAreListed(text);
        staticFieldsAreFinal(text);
        Due.end();
    }

    private static String withoutComments(String text) {
        return text.replaceAll("(?s)/\\*.*?\\*/", "").replaceAll("//[^\n]*", "");
    }

    private static void importsAreListed(String text) {
        TreeSet<String> imports = new TreeSet<>();
        Matcher found = Pattern.compile("import ([^;]*);").matcher(text);
        while (found.find()) {
            imports.add(found.group(1));
        }
        imports.remove("java.util.ArrayList");
        imports.remove("java.util.List");
        imports.remove("java.util.Arrays");
        Due.same("imports outside the list", imports.toString(), "[]");
    }

    private static void staticFieldsAreFinal(String text) {
        Matcher field = Pattern.compile("(?m)^.*\\bstatic\\b[^({]*[;=].*$").matcher(text);
        while (field.find()) {
            Due.that("final: " + field.group().trim(), field.group().contains("static final"));
        }
        Due.that("no static block", !Pattern.compile("\\bstatic\\s*\\{").matcher(text).find());
    }
}
