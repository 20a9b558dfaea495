/** Promises 13 and 14: restore and look. */
public final class RestoreTest {
    private static final long ABSENT = PageRescue.ABSENT;
    private static final long NONE = PageRescue.NONE;

    public static void main(String[] args) {
        restoreWithoutABackup();
        restoreOfWrongNumbers();
        restoreNeedsAnEndBelowTheCommit();
        restoreToACommitDuringABackup();
        restoreTakesTheLatestOfTheChain();
        restoreTakesTheLatestBackupBefore();
        restoreStopsAtTheCommit();
        restoreWithADroppedBackup();
        restoreOfWhatIsGone();
        goneDoesNotOpenTheScratchArea();
        restoreLeavesTheTable();
        lookOfWrongKeys();
        onlyRestoreChangesTheScratchArea();
        Due.end();
    }

    private static void restoreWithoutABackup() {
        PageRescue x = new PageRescue(8, 1);
        Due.same("14: not open", x.look(0), NONE);
        Calls.committed(x, 1, 0, 1);
        Calls.aborted(x, 5, 0);
        Calls.committed(x, 2, 0);
        x.begin();
        x.put(1, 0, false);
        x.commit();
        Due.same("14: still not open", x.look(0), NONE);
        Due.same("13: to the first", x.restore(1), 2);
        Due.same("14: look", x.look(0) * 10 + x.look(1), 11);
        Due.same("13: to the second, with the UNDO", x.restore(2), 5);
        Due.same("14: look", x.look(0) * 10 + x.look(1), 21);
        Due.same("13: to the third", x.restore(3), 6);
        Due.same("14: look", x.look(1), ABSENT);
        Due.same("14: a key that never had one", x.look(31), ABSENT);
        Due.same("13: and back", x.restore(1), 2);
        Due.same("14: look", x.look(1), 1);
    }

    private static void restoreOfWrongNumbers() {
        PageRescue x = new PageRescue(4, 1);
        Due.same("13: no commits", x.restore(1), PageRescue.REFUSED);
        Calls.committed(x, 1, 0);
        int[] wrong = {0, -1, 2, Integer.MIN_VALUE, Integer.MAX_VALUE};
        for (int commit : wrong) {
            Due.same("13: restore(" + commit + ")", x.restore(commit), PageRescue.REFUSED);
            Due.same("13: it does not open", x.look(0), NONE);
        }
    }

    /** The END is the record of the commit, or above, or just below. */
    private static void restoreNeedsAnEndBelowTheCommit() {
        PageRescue x = new PageRescue(8, 1);
        Calls.committed(x, 1, 0);
        Calls.wholeBackup(x, true);
        Due.same("16: END", x.ofBackup(1, 3), 2);
        Due.same("13: END is the commit's record", x.restore(1), 1);
        Calls.emptyCommits(x, 1);
        Due.same("13: END is just below", x.restore(2), 0);
        Due.same("14: look", x.look(0), 1);
        Due.same("13: a backup after the commit", x.restore(1), 1);
    }

    private static void restoreToACommitDuringABackup() {
        PageRescue x = new PageRescue(8, 3);
        Calls.committed(x, 1, 0, 1);
        Calls.wholeBackup(x, true);
        Calls.committed(x, 2, 0);
        x.backup(true);
        x.step(4);
        Calls.committed(x, 3, 0, 28);
        x.step(4);
        Due.same("16: START is below the commit's record, END is not", x.ofBackup(2, 2) * 10 + x.ofBackup(2, 3), 58);
        Due.same("13: the backup before is taken", x.restore(3), 3);
        Due.same("14: look", x.look(0) * 100 + x.look(1) * 10 + x.look(28), 313);
    }

    private static void restoreTakesTheLatestOfTheChain() {
        PageRescue x = new PageRescue(8, 3);
        x.backup(true);
        x.step(2);
        Calls.committed(x, 1, 0, 4, 8);
        x.step(6);
        Calls.committed(x, 2, 4);
        x.backup(false);
        x.step(1);
        Calls.committed(x, 3, 0, 4);
        x.step(7);
        Calls.committed(x, 4, 12);
        Due.same("16: images", x.ofBackup(2, 4), 3);
        Due.same("13: page 0 from before its second CHANGE, page 3 from the full one", x.restore(4), 2);
        Due.same("14: look", x.look(0) * 1000 + x.look(4) * 100 + x.look(8) * 10 + x.look(12), 3314);
        Due.same("13: the full one alone", x.restore(2), 3);
        Due.same("14: look", x.look(0) * 100 + x.look(4) * 10 + x.look(8), 121);
        Due.same("14: not yet", x.look(12), ABSENT);
    }

    private static void restoreTakesTheLatestBackupBefore() {
        PageRescue x = new PageRescue(8, 3);
        for (int i = 1; i <= 3; i++) {
            Calls.wholeBackup(x, true);
            Calls.committed(x, i, 0, 1);
        }
        for (int i = 1; i <= 3; i++) {
            Due.same("13: restore(" + i + ")", x.restore(i), 2);
            Due.same("14: look", x.look(1), i);
        }
    }

    private static void restoreStopsAtTheCommit() {
        PageRescue x = new PageRescue(8, 1);
        Calls.committed(x, 1, 0);
        x.begin();
        x.put(0, 2, true);
        Due.same("13: with an open transaction", x.restore(1), 1);
        Due.same("14: its CHANGES are later", x.look(0), 1);
        x.commit();
        Due.same("13: with them", x.restore(2), 2);
        Due.same("14: look", x.look(0), 2);
    }

    private static void restoreWithADroppedBackup() {
        PageRescue x = new PageRescue(4, 1);
        Calls.wholeBackup(x, true);
        Calls.committed(x, 1, 0, 1);
        Due.same("13: from the kept one", x.restore(1), 2);
        Calls.committed(x, 2, 0);
        Calls.wholeBackup(x, true);
        Due.same("16: dropped", x.ofBackup(1, 0), 0);
        Due.same("13: nothing is PURGED, so from number 0", x.restore(2), 3);
        Due.same("14: look", x.look(0) * 10 + x.look(1), 21);
    }

    private static void restoreOfWhatIsGone() {
        PageRescue x = new PageRescue(4, 1);
        Calls.wholeBackup(x, true);
        Calls.committed(x, 1, 0, 1, 2);
        x.archive();
        Calls.committed(x, 2, 0);
        Due.same("13: before", x.restore(2), 4);
        Calls.wholeBackup(x, true);
        Calls.committed(x, 3, 1);
        Due.same("17: PURGED", x.count(4), 0);
        Due.same("13: gone", x.restore(1), PageRescue.GONE);
        Due.same("13: gone too, though its own segment is online", x.restore(2), PageRescue.GONE);
        Due.same("14: the scratch area is as it was", x.look(0) * 10 + x.look(1), 21);
        Due.same("13: not gone", x.restore(3), 1);
        Due.same("14: look", x.look(0) * 10 + x.look(1), 23);
        Due.same("13: refused before gone", x.restore(0), PageRescue.REFUSED);
        Due.same("13: refused before gone", x.restore(4), PageRescue.REFUSED);
    }

    private static void goneDoesNotOpenTheScratchArea() {
        PageRescue x = new PageRescue(4, 1);
        Calls.wholeBackup(x, true);
        Calls.committed(x, 1, 0, 1, 2);
        x.archive();
        Calls.wholeBackup(x, true);
        Due.same("13: gone", x.restore(1), PageRescue.GONE);
        Due.same("14: not open", x.look(0), NONE);
    }

    private static void restoreLeavesTheTable() {
        PageRescue x = new PageRescue(8, 1);
        Calls.committed(x, 1, 0);
        Calls.committed(x, 2, 0);
        x.begin();
        x.put(4, 3, true);
        x.backup(true);
        x.step(3);
        x.restore(1);
        Due.same("13: the table stays", x.get(0) * 10 + x.get(4), 23);
        Due.same("13: the transaction stays", x.count(8), 1);
        Due.same("13: the backup runs on", x.count(7), 5);
        Due.same("13: no record", x.count(0), 5);
    }

    private static void lookOfWrongKeys() {
        PageRescue x = new PageRescue(4, 1);
        Calls.committed(x, 1, 31);
        x.restore(1);
        int[] wrong = {-1, 32, Integer.MIN_VALUE, Integer.MAX_VALUE};
        for (int key : wrong) {
            Due.same("14: look(" + key + ")", x.look(key), NONE);
        }
        Due.same("14: the last key", x.look(31), 1);
    }

    private static void onlyRestoreChangesTheScratchArea() {
        PageRescue x = new PageRescue(4, 1);
        Calls.committed(x, 1, 0);
        x.restore(1);
        Calls.committed(x, 2, 0, 1);
        Calls.aborted(x, 3, 0);
        x.archive();
        Calls.wholeBackup(x, true);
        x.write(0);
        x.crash(0);
        x.lose();
        x.restore(9);
        Due.same("14: as it was restored", x.look(0), 1);
        Due.same("14: as it was restored", x.look(1), ABSENT);
    }
}
