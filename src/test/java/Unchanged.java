import java.util.List;
import java.util.Map;
import java.util.function.Supplier;
import java.util.function.ToLongFunction;
import java.util.function.UnaryOperator;

/**
 * That a call answers as is due and changes nothing. The object is compared with a twin that was made by the same
 * calls but for this one: first in all that can be asked, then in what either answers to calls that go on from there,
 * since not all that an object holds (what an UNDO gives back, which images a running backup has) can be asked.
 */
final class Unchanged {
    private interface GoOn {
        void with(PageRescue x, StringBuilder answers);
    }

    private static final List<GoOn> WAYS_ON = List.of(
        Unchanged::putAndCommit, Unchanged::abortAndBegin, Unchanged::archiveAll, Unchanged::finishBackups,
        Unchanged::crashAndWrite, Unchanged::loseAll, Unchanged::restoreAll);

    private Unchanged() {
    }

    static void after(String state, Supplier<PageRescue> made, ToLongFunction<PageRescue> call, long due) {
        compared(state, made, call, due, answers -> answers);
    }

    /** For restore: all that look tells is left out. */
    static void butForTheScratchArea(String state, Supplier<PageRescue> made, ToLongFunction<PageRescue> call, long due) {
        compared(state, made, call, due, answers -> answers.replaceAll(" look\\d+=\\S+", ""));
    }

    private static void compared(String state, Supplier<PageRescue> made, ToLongFunction<PageRescue> call, long due,
            UnaryOperator<String> part) {
        for (GoOn way : WAYS_ON) {
            PageRescue x = made.get();
            PageRescue twin = made.get();
            Due.same("the call, " + state, call.applyAsLong(x), due);
            Due.same("all answers, " + state, part.apply(Calls.allAnswers(x)), part.apply(Calls.allAnswers(twin)));
            Due.same("the calls after, " + state, part.apply(wentOn(way, x)), part.apply(wentOn(way, twin)));
        }
    }

    static void inEach(Map<String, Supplier<PageRescue>> states, ToLongFunction<PageRescue> call, long due) {
        for (Map.Entry<String, Supplier<PageRescue>> state : states.entrySet()) {
            after(state.getKey(), state.getValue(), call, due);
        }
    }

    /** For numbers out of range, which are refused whatever else is there. */
    static void inAllStates(ToLongFunction<PageRescue> call, long due) {
        inEach(States.all(), call, due);
    }

    private static String wentOn(GoOn way, PageRescue x) {
        StringBuilder answers = new StringBuilder();
        way.with(x, answers);
        answers.append(Calls.allAnswers(x));
        return answers.toString();
    }

    private static void putAndCommit(PageRescue x, StringBuilder answers) {
        for (int key = 0; key < 32; key += 5) {
            answers.append(x.put(key, 100 + key, key != 5)).append(' ');
        }
        answers.append(x.commit()).append(' ').append(x.begin()).append(' ').append(x.put(1, 7, true));
        answers.append(' ').append(x.abort());
    }

    private static void abortAndBegin(PageRescue x, StringBuilder answers) {
        answers.append(x.abort()).append(' ').append(x.begin()).append(' ').append(x.put(31, 8, true));
        answers.append(' ').append(x.commit());
    }

    private static void archiveAll(PageRescue x, StringBuilder answers) {
        for (int i = 0; i < 5; i++) {
            answers.append(x.archive()).append(' ');
        }
        answers.append(x.begin()).append(' ').append(x.commit());
    }

    private static void finishBackups(PageRescue x, StringBuilder answers) {
        for (int i = 0; i < 8; i++) {
            answers.append(x.step(1)).append(' ');
        }
        answers.append(x.backup(false)).append(' ').append(x.step(8)).append(' ');
        answers.append(x.backup(true)).append(' ').append(x.step(8));
    }

    private static void crashAndWrite(PageRescue x, StringBuilder answers) {
        answers.append(x.crash(-1)).append(' ').append(x.crash(0)).append(' ').append(x.write(7));
        answers.append(' ').append(x.crash(1));
    }

    private static void loseAll(PageRescue x, StringBuilder answers) {
        answers.append(x.lose()).append(' ').append(x.backup(false));
    }

    private static void restoreAll(PageRescue x, StringBuilder answers) {
        for (int commit = x.count(1) + 1; commit >= 0; commit--) {
            answers.append(x.restore(commit)).append(' ');
        }
    }
}
