/** Promise 13: the commits of restore, an END at the commit's record and below it, and what is GONE. */
public final class Boundary13RestoreTest {
    private static final int REFUSED = PageRescue.REFUSED;

    public static void main(String[] args) {
        Cases.runAll(Boundary13RestoreTest.class, "promise13");
    }

    static void promise13_commit1WithNoCommitYetIsRefused() {
        Unchanged.after("new", States::fresh, x -> x.restore(1), REFUSED);
        Unchanged.after("open", () -> States.openWith(4, 12), x -> x.restore(1), REFUSED);
    }

    static void promise13_commit1IsTheFirstTaken() {
        PageRescue x = commits(3);
        Due.same("restore(1)", x.restore(1), 1);
        Due.same("look", x.look(0), 1);
    }

    static void promise13_lastCommitIsTaken() {
        PageRescue x = commits(3);
        Due.same("restore(3)", x.restore(3), 3);
        Due.same("look", x.look(0), 3);
    }

    static void promise13_oneAboveTheLastIsRefused() {
        Unchanged.after("3 commits", () -> commits(3), x -> x.restore(4), REFUSED);
        Unchanged.inAllStates(x -> x.restore(x.count(1) + 1), REFUSED);
    }

    static void promise13_commit0IsRefused() {
        Unchanged.inAllStates(x -> x.restore(0), REFUSED);
    }

    static void promise13_commitMinus1IsRefused() {
        Unchanged.inAllStates(x -> x.restore(-1), REFUSED);
    }

    static void promise13_commitLeastIntIsRefused() {
        Unchanged.inAllStates(x -> x.restore(Integer.MIN_VALUE), REFUSED);
    }

    static void promise13_commitGreatestIntIsRefused() {
        Unchanged.inAllStates(x -> x.restore(Integer.MAX_VALUE), REFUSED);
    }

    static void promise13_refusedDoesNotOpenTheScratchArea() {
        PageRescue x = commits(1);
        x.restore(0);
        x.restore(2);
        Due.same("look", x.look(0), PageRescue.NONE);
    }

    static void promise13_commitWithoutChangesBeforeItHasNoValues() {
        PageRescue x = new PageRescue(4, 1);
        Calls.emptyCommits(x, 1);
        Calls.committed(x, 1, 0);
        Due.same("restore", x.restore(1), 0);
        for (int key = 0; key < 32; key++) {
            Due.same("look(" + key + ")", x.look(key), PageRescue.ABSENT);
        }
    }

    static void promise13_endsAreNotCountedAsCommits() {
        PageRescue x = new PageRescue(8, 1);
        Calls.aborted(x, 9, 0);
        Calls.committed(x, 1, 0);
        Calls.aborted(x, 9, 0);
        Calls.committed(x, 2, 0);
        Due.same("restore(1)", x.restore(1), 3);
        Due.same("look", x.look(0), 1);
        Due.same("restore(2)", x.restore(2), 6);
        Due.same("look", x.look(0), 2);
        Due.same("restore(3)", x.restore(3), REFUSED);
    }

    static void promise13_changeJustBeforeTheCommitIsIn() {
        PageRescue x = new PageRescue(8, 1);
        Calls.committed(x, 1, 31);
        Due.same("restore", x.restore(1), 1);
        Due.same("look", x.look(31), 1);
    }

    static void promise13_changeJustAfterTheCommitIsNotIn() {
        PageRescue x = new PageRescue(8, 1);
        Calls.committed(x, 1, 31);
        x.begin();
        x.put(31, 2, true);
        Due.same("restore", x.restore(1), 1);
        Due.same("look", x.look(31), 1);
    }

    static void promise13_endJustBelowTheCommitIsTaken() {
        PageRescue x = new PageRescue(8, 1);
        x.begin();
        x.put(0, 1, true);
        Calls.wholeBackup(x, true);
        x.commit();
        Due.same("END", x.ofBackup(1, 3), 1);
        Due.same("the commit's record is 2", x.restore(1), 0);
        Due.same("look", x.look(0), 1);
    }

    static void promise13_endAtTheCommitIsNotTaken() {
        PageRescue x = new PageRescue(8, 1);
        Calls.committed(x, 1, 0);
        Calls.wholeBackup(x, true);
        Due.same("END", x.ofBackup(1, 3), 2);
        Due.same("the commit's record is 2", x.restore(1), 1);
        Due.same("look", x.look(0), 1);
    }

    static void promise13_startBelowAndEndAboveTheCommitIsNotTaken() {
        PageRescue x = new PageRescue(8, 1);
        x.begin();
        x.put(0, 1, true);
        x.backup(true);
        x.step(7);
        x.commit();
        x.step(1);
        Due.same("START", x.ofBackup(1, 2), 1);
        Due.same("END", x.ofBackup(1, 3), 2);
        Due.same("restore", x.restore(1), 1);
    }

    static void promise13_runningOneIsNotTaken() {
        PageRescue x = new PageRescue(8, 1);
        x.begin();
        x.put(0, 1, true);
        x.backup(true);
        x.step(7);
        x.commit();
        Due.same("restore", x.restore(1), 1);
        Due.same("it runs on", x.count(7), 1);
    }

    static void promise13_latestOfTwoWithTheSameEndIsTaken() {
        PageRescue x = new PageRescue(8, 2);
        x.begin();
        x.backup(true);
        x.step(1);
        x.put(0, 1, true);
        x.step(7);
        Calls.wholeBackup(x, true);
        x.commit();
        Due.same("END of the first", x.ofBackup(1, 3), 1);
        Due.same("END of the second", x.ofBackup(2, 3), 1);
        Due.same("restore", x.restore(1), 0);
    }

    static void promise13_incrementalWithoutImagesUsesItsChain() {
        PageRescue x = new PageRescue(8, 1);
        Calls.committed(x, 1, 0, 31);
        Calls.wholeBackup(x, true);
        Calls.wholeBackup(x, false);
        Calls.emptyCommits(x, 1);
        Due.same("images", x.ofBackup(2, 4), 0);
        Due.same("restore", x.restore(2), 0);
        Due.same("look", x.look(31), 1);
    }

    /** Image in the incremental one for page 0 alone: the others come from the full one. */
    static void promise13_eachPageComesFromTheLatestThatHasIt() {
        PageRescue x = new PageRescue(8, 1);
        Calls.committed(x, 1, 0, 31);
        Calls.wholeBackup(x, true);
        Calls.committed(x, 2, 0);
        Calls.wholeBackup(x, false);
        Calls.committed(x, 3, 31);
        Due.same("restore", x.restore(3), 1);
        Due.same("look", x.look(0) * 10 + x.look(31), 23);
    }

    /** The images of the older full one are better for no page, and not in the CHAIN. */
    static void promise13_chainEndsAtTheLatestFullOne() {
        PageRescue x = new PageRescue(8, 2);
        Calls.committed(x, 1, 0);
        Calls.wholeBackup(x, true);
        Calls.committed(x, 2, 0);
        Calls.wholeBackup(x, false);
        Calls.wholeBackup(x, true);
        Calls.committed(x, 3, 4);
        Due.same("restore", x.restore(3), 1);
        Due.same("restore between", x.restore(2), 1);
    }

    static void promise13_noBackupBelowAndNothingPurgedIsFromNumber0() {
        PageRescue x = new PageRescue(4, 1);
        Calls.committed(x, 1, 0, 4, 8);
        x.archive();
        Calls.wholeBackup(x, true);
        Due.same("archived but not PURGED", x.restore(1), 3);
    }

    static void promise13_droppedBackupAndNothingPurgedIsFromNumber0() {
        PageRescue x = new PageRescue(4, 1);
        Calls.wholeBackup(x, true);
        Calls.committed(x, 1, 0, 4);
        Calls.wholeBackup(x, true);
        Due.same("dropped", x.ofBackup(1, 0), 0);
        Due.same("restore", x.restore(1), 2);
    }

    static void promise13_droppedBackupAndOneSegmentPurgedIsGone() {
        PageRescue x = new PageRescue(4, 1);
        Calls.wholeBackup(x, true);
        Calls.committed(x, 1, 0, 4, 8);
        x.archive();
        Due.same("while it is kept", x.restore(1), 3);
        Calls.wholeBackup(x, true);
        Due.same("END of the dropped one", x.ofBackup(1, 3), 0);
        Due.same("restore", x.restore(1), PageRescue.GONE);
    }

    static void promise13_noBackupBelowAndOneSegmentPurgedIsGone() {
        Unchanged.after("purged", States::purged, x -> x.restore(1), PageRescue.GONE);
    }

    static void promise13_goneWithAllElseRunningChangesNothing() {
        Unchanged.after("purged and busy", () -> {
            PageRescue x = States.purged();
            x.begin();
            x.put(12, 3, true);
            x.put(4, 3, false);
            x.backup(false);
            x.step(2);
            return x;
        }, x -> x.restore(1), PageRescue.GONE);
    }

    static void promise13_goneDoesNotOpenTheScratchArea() {
        Unchanged.after("never restored", Boundary13RestoreTest::purgedAndNotOpen, x -> x.restore(1), PageRescue.GONE);
        PageRescue x = purgedAndNotOpen();
        x.restore(1);
        Due.same("look", x.look(0), PageRescue.NONE);
    }

    static void promise13_endAtTheCommitWithASegmentPurgedIsGone() {
        PageRescue x = purgedAndNotOpen();
        Due.same("END", x.ofBackup(2, 3), 4);
        Due.same("the commit's record is 4", x.restore(1), PageRescue.GONE);
        Calls.emptyCommits(x, 1);
        Due.same("the next commit's is 5", x.restore(2), 0);
        Due.same("look", x.look(8), 1);
    }

    static void promise13_outOfRangeIsRefusedBeforeGone() {
        Unchanged.after("purged", States::purged, x -> x.restore(0), REFUSED);
        Unchanged.after("purged", States::purged, x -> x.restore(3), REFUSED);
    }

    static void promise13_goneStaysGone() {
        PageRescue x = States.purged();
        Due.same("restore", x.restore(1), PageRescue.GONE);
        x.lose();
        Calls.wholeBackup(x, false);
        Due.same("restore", x.restore(1), PageRescue.GONE);
        Due.same("a later commit is not", x.restore(2), 1);
    }

    /** Each of eight commits puts the keys of one page; a backup stands between them. */
    static void promise13_everyKeyIsBuilt() {
        PageRescue x = new PageRescue(8, 1);
        String[] due = new String[9];
        for (int commit = 1; commit <= 8; commit++) {
            x.begin();
            for (int key = 4 * commit - 4; key < 4 * commit; key++) {
                x.put(key, 100 + key, true);
            }
            x.commit();
            x.archive();
            due[commit] = Calls.table(x);
            if (commit == 4) {
                Calls.wholeBackup(x, true);
            }
        }
        for (int commit = 8; commit >= 1; commit--) {
            Due.same("restore(" + commit + ")", x.restore(commit), commit <= 4 ? 4 * commit : 4 * commit - 16);
            Due.same("the scratch area at " + commit, Calls.scratch(x), due[commit]);
        }
    }

    static void promise13_changesNothingButTheScratchArea() {
        Unchanged.butForTheScratchArea("new and committed", () -> commits(3), x -> x.restore(2), 2);
        Unchanged.butForTheScratchArea("quiet", States::quiet, x -> x.restore(2), 2);
        Unchanged.butForTheScratchArea("busy", States::busy, x -> x.restore(2), 2);
        Unchanged.after("restored", () -> {
            PageRescue y = States.busy();
            y.restore(2);
            return y;
        }, y -> y.restore(2), 2);
    }

    private static PageRescue commits(int made) {
        PageRescue x = new PageRescue(4, 1);
        for (int i = 1; i <= made; i++) {
            Calls.committed(x, i, 0);
        }
        return x;
    }

    private static PageRescue purgedAndNotOpen() {
        PageRescue x = new PageRescue(4, 1);
        Calls.committed(x, 1, 0, 4, 8);
        x.archive();
        Calls.wholeBackup(x, true);
        Calls.wholeBackup(x, true);
        return x;
    }
}
