/** Promise 17: the numbers of count, and each thing that it counts at its least and at its greatest. */
public final class Boundary17CountTest {
    public static void main(String[] args) {
        Cases.runAll(Boundary17CountTest.class, "promise17");
    }

    static void promise17_what0IsTheFirstTold() {
        Due.same("no record", new PageRescue(4, 1).count(0), 0);
        Due.same("records", States.quiet().count(0), 10);
    }

    static void promise17_what8IsTheLastTold() {
        Due.same("no transaction", States.quiet().count(8), 0);
        Due.same("CHANGES", States.busy().count(8), 2);
    }

    static void promise17_whatMinus1IsRefused() {
        refused(-1);
    }

    static void promise17_what9IsRefused() {
        refused(9);
    }

    static void promise17_whatLeastIntIsRefused() {
        refused(Integer.MIN_VALUE);
    }

    static void promise17_whatGreatestIntIsRefused() {
        refused(Integer.MAX_VALUE);
    }

    static void promise17_recordsOfEveryKindCount() {
        PageRescue x = new PageRescue(8, 1);
        x.begin();
        Due.same("none", x.count(0), 0);
        x.put(0, 1, true);
        Due.same("a CHANGE", x.count(0), 1);
        x.commit();
        Due.same("a COMMIT", x.count(0), 2);
        Calls.aborted(x, 1, 0);
        Due.same("two CHANGES and an END", x.count(0), 5);
    }

    static void promise17_abortedOnesAreNoCommits() {
        PageRescue x = new PageRescue(8, 1);
        Calls.aborted(x, 1, 0);
        Due.same("none", x.count(1), 0);
        Calls.emptyCommits(x, 1);
        Due.same("one", x.count(1), 1);
    }

    static void promise17_runningBackupIsNotFinished() {
        PageRescue x = States.running(true, 7);
        Due.same("running", x.count(2), 0);
        x.step(1);
        Due.same("finished", x.count(2), 1);
    }

    static void promise17_droppedBackupsAreFinishedOnes() {
        PageRescue x = new PageRescue(4, 1);
        for (int made = 1; made <= 4; made++) {
            Calls.wholeBackup(x, true);
            Due.same("finished", x.count(2), made);
        }
    }

    static void promise17_online0To4() {
        for (int size = 4; size <= 8; size++) {
            PageRescue x = new PageRescue(size, 1);
            Due.same("none", x.count(3), 0);
            for (int record = 1; record <= 4 * size; record++) {
                Calls.emptyCommits(x, 1);
                Due.same("records " + record + ", size " + size, x.count(3), (record - 1) / size + 1);
            }
            Calls.emptyCommits(x, 1);
            Due.same("no fifth", x.count(3), 4);
        }
    }

    static void promise17_onlineWithAllArchivedIs0() {
        PageRescue x = new PageRescue(4, 1);
        Calls.emptyCommits(x, 4);
        x.archive();
        Due.same("none", x.count(3), 0);
        Calls.emptyCommits(x, 1);
        Due.same("from its first record on", x.count(3), 1);
    }

    static void promise17_archivedWithoutPurgedOnes() {
        PageRescue x = States.purged();
        Due.same("PURGED", x.count(4), 0);
        Due.same("archived only", States.quiet().count(4), 1);
        Due.same("none yet", States.fresh().count(4), 0);
    }

    static void promise17_left0AndItsGreatest() {
        for (int size = 4; size <= 8; size++) {
            PageRescue x = new PageRescue(size, 1);
            Due.same("greatest", x.count(5), 4 * size);
            Calls.emptyCommits(x, 4 * size - 1);
            Due.same("one", x.count(5), 1);
            Calls.emptyCommits(x, 1);
            Due.same("none", x.count(5), 0);
            x.archive();
            Due.same("one segment", x.count(5), size);
            x.archive();
            x.archive();
            x.archive();
            Due.same("all archived", x.count(5), 4 * size);
        }
    }

    static void promise17_openOrNot() {
        PageRescue x = new PageRescue(4, 1);
        Due.same("none", x.count(6), 0);
        x.begin();
        Due.same("open", x.count(6), 1);
        x.put(0, 1, true);
        Due.same("open with a CHANGE", x.count(6), 1);
        x.commit();
        Due.same("none", x.count(6), 0);
    }

    static void promise17_pagesToVisit8To1AndNone() {
        PageRescue x = new PageRescue(4, 1);
        Due.same("none is running", x.count(7), -2);
        x.backup(true);
        for (int left = 8; left >= 1; left--) {
            Due.same("to visit", x.count(7), left);
            x.step(1);
        }
        Due.same("finished", x.count(7), -2);
        x.backup(false);
        Due.same("incremental", x.count(7), 8);
        x.lose();
        Due.same("given up", x.count(7), -2);
    }

    static void promise17_changes0To4() {
        PageRescue x = new PageRescue(8, 1);
        Due.same("none is open", x.count(8), 0);
        x.begin();
        for (int made = 0; made < 4; made++) {
            Due.same("CHANGES", x.count(8), made);
            x.put(made, 1, true);
        }
        Due.same("CHANGES", x.count(8), 4);
        x.put(5, 1, true);
        Due.same("no fifth", x.count(8), 4);
        x.abort();
        Due.same("none is open", x.count(8), 0);
    }

    static void promise17_askingChangesNothing() {
        for (int what = 0; what <= 8; what++) {
            int w = what;
            int due = States.busy().count(w);
            Unchanged.after("busy", States::busy, x -> x.count(w), due);
        }
    }

    private static void refused(int what) {
        Unchanged.inAllStates(x -> x.count(what), PageRescue.REFUSED);
    }
}
