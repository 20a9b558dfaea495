import java.util.LinkedHashMap;
import java.util.Map;
import java.util.function.Supplier;
import java.util.function.ToLongFunction;

/** States that an object is brought to by calls; each is made anew whenever it is asked for. */
final class States {
    private States() {
    }

    /** Those in which numbers out of range are tried: with nothing there yet, with all there is, full and PURGED. */
    static Map<String, Supplier<PageRescue>> all() {
        Map<String, Supplier<PageRescue>> states = new LinkedHashMap<>();
        states.put("new", States::fresh);
        states.put("quiet", States::quiet);
        states.put("busy", States::busy);
        states.put("full", States::full);
        states.put("full and open", States::fullAndOpen);
        states.put("purged", States::purged);
        return states;
    }

    /** The ways to a state in which no transaction is open. */
    static Map<String, Supplier<PageRescue>> withoutTransaction() {
        Map<String, Supplier<PageRescue>> states = new LinkedHashMap<>();
        states.put("new", States::fresh);
        states.put("after commit", () -> after(PageRescue::commit));
        states.put("after abort", () -> after(PageRescue::abort));
        states.put("after crash", () -> after(x -> x.crash(-1)));
        states.put("after lose", () -> after(PageRescue::lose));
        states.put("full", States::full);
        return states;
    }

    static PageRescue fresh() {
        return new PageRescue(4, 1);
    }

    /** Records, commits, an UNDO, two backups, a torn page, an archived segment, an open scratch area. */
    static PageRescue quiet() {
        PageRescue x = new PageRescue(8, 2);
        Calls.committed(x, 1, 0, 4, 31);
        x.write(0);
        x.write(7);
        Calls.wholeBackup(x, true);
        Calls.committed(x, 2, 4, 8);
        x.crash(7);
        x.backup(false);
        x.step(1);
        Calls.aborted(x, 3, 0);
        x.step(7);
        x.restore(1);
        x.archive();
        return x;
    }

    /** As quiet, with an open transaction of two CHANGES and a running backup. */
    static PageRescue busy() {
        PageRescue x = quiet();
        x.begin();
        x.put(12, 5, true);
        x.backup(true);
        x.step(3);
        x.put(0, 6, false);
        return x;
    }

    /** LEFT is 0, and no transaction is open. */
    static PageRescue full() {
        PageRescue x = new PageRescue(4, 1);
        Calls.committed(x, 1, 0, 30);
        Calls.emptyCommits(x, 13);
        return x;
    }

    static PageRescue fullAndOpen() {
        PageRescue x = full();
        x.begin();
        return x;
    }

    /** A segment was PURGED and commit 1 is GONE; the scratch area is open with it. */
    static PageRescue purged() {
        PageRescue x = new PageRescue(4, 1);
        Calls.committed(x, 1, 0, 4, 8);
        x.restore(1);
        x.archive();
        Calls.wholeBackup(x, true);
        Calls.wholeBackup(x, true);
        Calls.committed(x, 2, 4);
        return x;
    }

    /** An open transaction with so many CHANGES and so many records LEFT; size 4. */
    static PageRescue openWith(int changes, int left) {
        PageRescue x = new PageRescue(4, 1);
        Calls.emptyCommits(x, 16 - left - changes);
        x.begin();
        for (int i = 1; i <= changes; i++) {
            x.put(4 * i, i, true);
        }
        Due.same("CHANGES of the state", x.count(8), changes);
        Due.same("LEFT of the state", x.count(5), left);
        return x;
    }

    /** A running backup that has visited so many pages; if it is incremental, with a full one before it. */
    static PageRescue running(boolean full, int visited) {
        PageRescue x = new PageRescue(4, 2);
        Calls.committed(x, 1, 0, 5);
        if (!full) {
            Calls.wholeBackup(x, true);
            Calls.committed(x, 2, 0, 31);
        }
        x.backup(full);
        if (visited > 0) {
            x.step(visited);
        }
        return x;
    }

    private static PageRescue after(ToLongFunction<PageRescue> end) {
        PageRescue x = new PageRescue(8, 1);
        Calls.committed(x, 1, 0);
        x.begin();
        x.put(0, 2, true);
        x.put(9, 3, true);
        end.applyAsLong(x);
        return x;
    }
}
