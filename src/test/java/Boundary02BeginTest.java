import java.util.Map;
import java.util.function.Supplier;

/** Promise 2: begin while a transaction is open, and wherever none is. */
public final class Boundary02BeginTest {
    public static void main(String[] args) {
        Cases.runAll(Boundary02BeginTest.class, "promise2");
    }

    static void promise2_openWithoutChangesIsRefused() {
        Unchanged.after("open", () -> States.openWith(0, 16), PageRescue::begin, PageRescue.REFUSED);
    }

    static void promise2_openWith1To4ChangesIsRefused() {
        for (int changes = 1; changes <= 4; changes++) {
            int c = changes;
            Unchanged.after("open with " + c, () -> States.openWith(c, 16 - c), PageRescue::begin, PageRescue.REFUSED);
        }
    }

    static void promise2_openAndFullIsRefused() {
        Unchanged.after("full and open", States::fullAndOpen, PageRescue::begin, PageRescue.REFUSED);
    }

    static void promise2_openWhileABackupRunsIsRefused() {
        Unchanged.after("busy", States::busy, PageRescue::begin, PageRescue.REFUSED);
    }

    static void promise2_noneOpenIsDone() {
        for (Map.Entry<String, Supplier<PageRescue>> state : States.withoutTransaction().entrySet()) {
            PageRescue x = state.getValue().get();
            int records = x.count(0);
            Due.same("begin, " + state.getKey(), x.begin(), PageRescue.DONE);
            Due.same("one is open, " + state.getKey(), x.count(6), 1);
            Due.same("without CHANGES, " + state.getKey(), x.count(8), 0);
            Due.same("no record is made, " + state.getKey(), x.count(0), records);
        }
    }

    static void promise2_left0IsDone() {
        PageRescue x = States.full();
        Due.same("LEFT", x.count(5), 0);
        Due.same("begin", x.begin(), PageRescue.DONE);
        Due.same("four online still", x.count(3), 4);
    }

    static void promise2_changesOfTheOneBeforeAreNotItsOwn() {
        PageRescue x = new PageRescue(8, 1);
        Calls.committed(x, 1, 0, 1, 2, 3);
        x.begin();
        Due.same("CHANGES", x.count(8), 0);
        Due.same("none is undone", x.abort(), 0);
        Due.same("what was committed stays", x.get(3), 1);
        x.begin();
        for (int i = 0; i < 4; i++) {
            Due.same("four puts are taken again", x.put(i, 2, true), 6 + i);
        }
    }

    static void promise2_runningBackupGoesOn() {
        PageRescue x = States.running(true, 3);
        Due.same("begin", x.begin(), PageRescue.DONE);
        Due.same("still to visit", x.count(7), 5);
    }
}
