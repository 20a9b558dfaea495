/** Promise 9: backup while one is running, with no full one kept, and with no record yet. */
public final class Boundary09BackupTest {
    public static void main(String[] args) {
        Cases.runAll(Boundary09BackupTest.class, "promise9");
    }

    static void promise9_fullWhileAFullOneRunsIsRefused() {
        refusedWhileRunning(true, true);
    }

    static void promise9_fullWhileAnIncrementalOneRunsIsRefused() {
        refusedWhileRunning(false, true);
    }

    static void promise9_incrementalWhileAFullOneRunsIsRefused() {
        refusedWhileRunning(true, false);
    }

    static void promise9_incrementalWhileAnIncrementalOneRunsIsRefused() {
        refusedWhileRunning(false, false);
    }

    static void promise9_incrementalWithNoBackupYetIsRefused() {
        Unchanged.after("new", States::fresh, x -> x.backup(false), PageRescue.REFUSED);
        Unchanged.after("full", States::full, x -> x.backup(false), PageRescue.REFUSED);
    }

    static void promise9_incrementalAfterAFullOneGivenUpByCrashIsRefused() {
        Unchanged.after("given up", () -> givenUp(false), x -> x.backup(false), PageRescue.REFUSED);
    }

    static void promise9_incrementalAfterAFullOneGivenUpByLoseIsRefused() {
        Unchanged.after("given up", () -> givenUp(true), x -> x.backup(false), PageRescue.REFUSED);
    }

    static void promise9_incrementalWithOneFullOneKeptIsDone() {
        PageRescue x = new PageRescue(4, 1);
        Calls.wholeBackup(x, true);
        Due.same("backup", x.backup(false), PageRescue.DONE);
        Due.same("pages to visit", x.count(7), 8);
    }

    static void promise9_incrementalAfterADropIsDone() {
        PageRescue x = new PageRescue(4, 1);
        Calls.wholeBackup(x, true);
        Calls.wholeBackup(x, true);
        Due.same("backup", x.backup(false), PageRescue.DONE);
    }

    static void promise9_incrementalAfterAnotherWasGivenUpIsDone() {
        PageRescue x = States.running(false, 7);
        x.crash(-1);
        Due.same("backup", x.backup(false), PageRescue.DONE);
        Due.same("from page 0 on", x.count(7), 8);
    }

    static void promise9_fullWithNoRecordYetStartsAt0() {
        PageRescue x = new PageRescue(4, 1);
        Due.same("backup", x.backup(true), PageRescue.DONE);
        Due.same("pages to visit", x.count(7), 8);
        Due.same("it is not finished", x.count(2), 0);
        x.step(8);
        Due.same("START", x.ofBackup(1, 2), 0);
    }

    static void promise9_startIsTheLatestRecordOfEveryKind() {
        PageRescue x = new PageRescue(8, 3);
        x.begin();
        x.put(0, 1, true);
        Calls.wholeBackup(x, true);
        Due.same("after a CHANGE", x.ofBackup(1, 2), 1);
        x.commit();
        Calls.wholeBackup(x, true);
        Due.same("after a COMMIT", x.ofBackup(2, 2), 2);
        Calls.aborted(x, 1, 0);
        Calls.wholeBackup(x, false);
        Due.same("after an END", x.ofBackup(3, 2), 5);
    }

    static void promise9_startIsThatOfTheBeginNotOfTheFirstStep() {
        PageRescue x = new PageRescue(8, 1);
        Calls.emptyCommits(x, 3);
        x.backup(true);
        Calls.emptyCommits(x, 4);
        x.step(8);
        Due.same("START", x.ofBackup(1, 2), 3);
        Due.same("END", x.ofBackup(1, 3), 7);
    }

    static void promise9_beginTakesNoImage() {
        PageRescue x = new PageRescue(4, 1);
        x.backup(true);
        Due.same("images", x.page(0, 3), 0);
        Due.same("disk", x.page(0, 1), 0);
        Due.same("records", x.count(0), 0);
    }

    static void promise9_withLeft0IsDone() {
        PageRescue x = States.full();
        Due.same("backup", x.backup(true), PageRescue.DONE);
        Due.same("step", x.step(8), 0);
        Due.same("START", x.ofBackup(1, 2), 16);
    }

    private static void refusedWhileRunning(boolean running, boolean asked) {
        for (int visited = 0; visited < 8; visited++) {
            int v = visited;
            Unchanged.after("visited " + v, () -> States.running(running, v), x -> x.backup(asked), PageRescue.REFUSED);
        }
    }

    private static PageRescue givenUp(boolean lost) {
        PageRescue x = States.running(true, 7);
        if (lost) {
            x.lose();
        } else {
            x.crash(-1);
        }
        return x;
    }
}
