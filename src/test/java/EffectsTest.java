import java.util.LinkedHashMap;
import java.util.Map;
import java.util.TreeMap;
import java.util.function.Supplier;
import java.util.function.ToLongFunction;

/**
 * What each call changes, and nothing else: in every state the answers of an object are taken before the call and after
 * it, and those that differ must be among those that the document lets this call change.
 */
public final class EffectsTest {
    private static final String UNDONE = "count[03568]|get.*|page.\\.0";
    private static final String FINISHED = "count[247]|page.\\.3|backup\\d+\\.0";
    private static final String NONE_AT_ALL = "(?!)";

    public static void main(String[] args) {
        for (Map.Entry<String, Supplier<PageRescue>> state : States.all().entrySet()) {
            Due.inCase(state.getKey());
            transactions(state.getValue());
            pagesAndLog(state.getValue());
            backups(state.getValue());
            questions(state.getValue());
        }
        Due.end();
    }

    private static void transactions(Supplier<PageRescue> made) {
        changes("begin", made, PageRescue::begin, "count6");
        changes("commit", made, PageRescue::commit, "count[013568]");
        changes("abort", made, PageRescue::abort, UNDONE);
        for (int key = 0; key < 32; key++) {
            int k = key;
            changes("put", made, x -> x.put(k, 77, true), "count[0358]|get" + k + "|page" + k / 4 + "\\.0");
            changes("put none", made, x -> x.put(k, 77, false), "count[0358]|get" + k + "|page" + k / 4 + "\\.0");
        }
    }

    private static void pagesAndLog(Supplier<PageRescue> made) {
        changes("archive", made, PageRescue::archive, "count[345]");
        changes("lose", made, PageRescue::lose, UNDONE + "|count7|page.\\.2");
        changes("crash without a torn page", made, x -> x.crash(-1), UNDONE + "|count7");
        for (int page = 0; page < 8; page++) {
            int p = page;
            changes("write", made, x -> x.write(p), "page" + p + "\\.[12]");
            changes("crash", made, x -> x.crash(p), UNDONE + "|count7|page" + p + "\\.2");
        }
    }

    private static void backups(Supplier<PageRescue> made) {
        changes("full backup", made, x -> x.backup(true), "count7");
        changes("incremental backup", made, x -> x.backup(false), "count7");
        for (int n = 1; n <= 8; n++) {
            int pages = n;
            changes("step", made, x -> x.step(pages), FINISHED);
            changes("step after a begin", () -> {
                PageRescue x = made.get();
                x.backup(true);
                return x;
            }, x -> x.step(pages), FINISHED);
        }
        for (int commit = 1; commit <= made.get().count(1); commit++) {
            int c = commit;
            changes("restore", made, x -> x.restore(c), "look.*");
        }
    }

    private static void questions(Supplier<PageRescue> made) {
        for (int i = -1; i <= 32; i++) {
            int number = i;
            changes("get", made, x -> x.get(number), NONE_AT_ALL);
            changes("look", made, x -> x.look(number), NONE_AT_ALL);
            changes("count", made, x -> x.count(number), NONE_AT_ALL);
            changes("page", made, x -> x.page(number, number % 4), NONE_AT_ALL);
            changes("ofBackup", made, x -> x.ofBackup(number, number % 5), NONE_AT_ALL);
        }
    }

    private static void changes(String name, Supplier<PageRescue> made, ToLongFunction<PageRescue> call, String allowed) {
        PageRescue x = made.get();
        Map<String, String> before = answers(x);
        call.applyAsLong(x);
        Map<String, String> differ = new TreeMap<>(answers(x));
        // What is told of a backup that has just been finished was not told before.
        differ.keySet().retainAll(before.keySet());
        differ.entrySet().removeIf(each -> each.getValue().equals(before.get(each.getKey())));
        differ.keySet().removeIf(each -> each.matches(allowed));
        Due.same(name + " changed what it may not", differ.toString(), "{}");
    }

    private static Map<String, String> answers(PageRescue x) {
        Map<String, String> answers = new LinkedHashMap<>();
        for (String answer : Calls.allAnswers(x).trim().split(" ")) {
            answers.put(answer.substring(0, answer.indexOf('=')), answer.substring(answer.indexOf('=') + 1));
        }
        return answers;
    }
}
