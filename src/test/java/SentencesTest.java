import java.io.File;
import java.lang.reflect.Method;
import java.nio.file.Files;
import java.nio.file.Path;
import java.util.List;
import java.util.Set;
import java.util.TreeSet;
import java.util.regex.Matcher;
import java.util.regex.Pattern;

/**
 * That the document has no sentence without a test: the sentences of Sentences are the document's, one after the other;
 * each names tests that there are; and each boundary case stands under a sentence. Run from the project's root.
 */
public final class SentencesTest {
    private static final Path DOCUMENT = Path.of("../shared/DOC.md");
    private static final Pattern FACE = Pattern.compile("(?s)```java\n(.*?)```");

    public static void main(String[] args) throws Exception {
        Set<String> cases = cases();
        Set<String> placed = new TreeSet<>();
        for (List<String> row : Sentences.ROWS) {
            Due.inCase(row.get(0));
            testsAreThere(row, cases, placed);
        }
        Due.inCase("cases");
        cases.removeAll(placed);
        Due.same("cases that stand under no sentence", cases.toString(), "[]");
        if (Files.exists(DOCUMENT)) {
            isTheDocument(Files.readString(DOCUMENT));
        } else {
            System.out.println("there is no " + DOCUMENT + " here: the sentences were not compared with it");
        }
        Due.end();
    }

    private static void testsAreThere(List<String> row, Set<String> cases, Set<String> placed) throws Exception {
        for (String test : row.subList(1, row.size())) {
            boolean found = test.equals(Sentences.NOTHING) || test.endsWith("Test") && Class.forName(test) != null;
            for (String each : cases) {
                if (!test.isEmpty() && each.startsWith(test)) {
                    placed.add(each);
                    found = true;
                }
            }
            Due.that("there is the test " + test, found);
        }
        Due.that("has a test", row.size() > 1);
    }

    /** The cases of all classes that are compiled beside this one and named Boundary. */
    private static Set<String> cases() throws Exception {
        Set<String> cases = new TreeSet<>();
        File built = new File(SentencesTest.class.getProtectionDomain().getCodeSource().getLocation().toURI());
        for (String file : built.list((directory, name) -> name.matches("Boundary\\w+Test\\.class"))) {
            Class<?> tests = Class.forName(file.substring(0, file.length() - ".class".length()));
            for (Method method : tests.getDeclaredMethods()) {
                if (method.getName().matches("(promise\\d+|terms)_.*")) {
                    cases.add(method.getName());
                }
            }
        }
        Due.that("cases are found", cases.size() > 300);
        return cases;
    }

    private static void isTheDocument(String document) {
        Due.inCase("the document");
        Matcher face = FACE.matcher(document);
        Due.that("it has a face", face.find());
        String lines = "public final class PageRescue { " + String.join(" ", FaceTest.LINES) + " }";
        Due.same("the face", lines, inOneLine(face.group(1)));
        StringBuilder all = new StringBuilder();
        for (List<String> row : Sentences.ROWS) {
            all.append(row.get(0)).append(' ');
        }
        String text = FACE.matcher(document).replaceAll("").replaceAll("(?m)^#.*$", "");
        sameWords(inOneLine(all.toString()).split(" "), inOneLine(text).split(" "));
    }

    private static String inOneLine(String text) {
        return text.replaceAll("\\s+", " ").trim();
    }

    private static void sameWords(String[] told, String[] due) {
        for (int i = 0; i < Math.min(told.length, due.length); i++) {
            if (!told[i].equals(due[i])) {
                Due.same("word " + i + ", after " + due[Math.max(0, i - 1)], told[i], due[i]);
                return;
            }
        }
        Due.same("words", told.length, due.length);
    }
}
