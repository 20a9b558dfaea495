/** Promises 9, 10 and 16: backup, step, ofBackup; how backups are dropped and segments PURGED. */
public final class BackupsTest {
    private static final int REFUSED = PageRescue.REFUSED;

    public static void main(String[] args) {
        backupNeedsAFullOne();
        backupOnlyOnce();
        startAndEnd();
        stepAnswersWhatIsLeft();
        stepOfWrongNumbers();
        pagesAreTakenWhenVisited();
        incrementalTakesWhatIsAboveTheStart();
        incrementalLooksAtTheLatestFinished();
        givenUpOnesLeaveNothing();
        oldestFullIsDropped();
        dropReachesToTheNextFull();
        purgeWholeSegmentsUpToTheStart();
        purgeOnlyWhenOneIsDropped();
        purgeUpToTheOldestThatIsStillKept();
        purgeArchivedOnesAlone();
        ofBackupOfWrongNumbers();
        mostBackupsOfOneObject();
        Due.end();
    }

    private static void tell(PageRescue x, String what, int number, int... due) {
        for (int i = 0; i < due.length; i++) {
            Due.same(what + ": ofBackup(" + number + ", " + i + ")", x.ofBackup(number, i), due[i]);
        }
    }

    private static void backupNeedsAFullOne() {
        PageRescue x = new PageRescue(4, 1);
        Due.same("9: no full one is kept", x.backup(false), REFUSED);
        Due.same("9: nothing runs", x.count(7), -2);
        Due.same("9: full", x.backup(true), PageRescue.DONE);
        Due.same("9: it is to visit", x.count(7), 8);
        x.crash(-1);
        Due.same("9: a full one that was given up is not kept", x.backup(false), REFUSED);
        Calls.wholeBackup(x, true);
        Due.same("9: incremental", x.backup(false), PageRescue.DONE);
        Due.same("9: it is to visit", x.count(7), 8);
    }

    private static void backupOnlyOnce() {
        PageRescue x = new PageRescue(4, 1);
        x.backup(true);
        x.step(7);
        Due.same("9: one is running", x.backup(true), REFUSED);
        Due.same("9: an incremental one neither", x.backup(false), REFUSED);
        Due.same("9: it goes on", x.count(7), 1);
        x.step(1);
        Due.same("9: one finished", x.count(2), 1);
        Due.same("9: the next", x.backup(true), PageRescue.DONE);
    }

    private static void startAndEnd() {
        PageRescue x = new PageRescue(8, 3);
        x.backup(true);
        Calls.committed(x, 1, 0, 4);
        x.step(8);
        tell(x, "9", 1, 1, 1, 0, 3, 8);
        x.backup(false);
        x.begin();
        x.put(31, 1, true);
        x.step(4);
        x.abort();
        x.step(4);
        tell(x, "10", 2, 1, 0, 3, 6, 3);
    }

    private static void stepAnswersWhatIsLeft() {
        PageRescue x = new PageRescue(4, 1);
        Due.same("10: no backup is running", x.step(1), REFUSED);
        x.backup(true);
        for (int left = 7; left >= 0; left--) {
            Due.same("10: step(1)", x.step(1), left);
        }
        Due.same("10: finished", x.count(2), 1);
        Due.same("10: no backup is running", x.step(1), REFUSED);
        x.backup(true);
        Due.same("10: step(5)", x.step(5), 3);
        Due.same("10: more than are left", x.step(8), 0);
        Due.same("10: finished", x.count(2), 2);
        Due.same("10: images", x.ofBackup(2, 4), 8);
    }

    private static void stepOfWrongNumbers() {
        PageRescue x = new PageRescue(4, 1);
        x.backup(true);
        int[] wrong = {0, -1, 9, Integer.MIN_VALUE, Integer.MAX_VALUE};
        for (int n : wrong) {
            Due.same("10: step(" + n + ")", x.step(n), REFUSED);
            Due.same("10: nothing is visited", x.count(7), 8);
        }
    }

    /** The image has the page's number at the visit, not at the start: lose counts from it. */
    private static void pagesAreTakenWhenVisited() {
        PageRescue x = new PageRescue(8, 1);
        x.backup(true);
        x.step(1);
        Calls.committed(x, 1, 0, 4, 5, 28);
        x.step(7);
        Due.same("10: page 0 was visited before its CHANGE", x.lose(), 1);
        Due.same("10: the END", x.ofBackup(1, 3), 5);
    }

    private static void incrementalTakesWhatIsAboveTheStart() {
        PageRescue x = new PageRescue(8, 1);
        Calls.committed(x, 1, 0);
        x.begin();
        x.put(4, 1, true);
        x.backup(true);
        x.put(8, 1, true);
        x.step(8);
        Due.same("16: START of the full one", x.ofBackup(1, 2), 3);
        x.put(31, 1, true);
        Calls.wholeBackup(x, false);
        Due.same("10: pages 2 and 7 are above it", x.ofBackup(2, 4), 2);
        int[] images = {1, 1, 2, 1, 1, 1, 1, 2};
        for (int page = 0; page < 8; page++) {
            Due.same("10: images of page " + page, x.page(page, 3), images[page]);
        }
    }

    private static void incrementalLooksAtTheLatestFinished() {
        PageRescue x = new PageRescue(8, 1);
        Calls.wholeBackup(x, true);
        Calls.committed(x, 1, 0);
        Calls.wholeBackup(x, false);
        tell(x, "10: the first", 2, 1, 0, 2, 2, 1);
        Calls.committed(x, 1, 4);
        Calls.wholeBackup(x, false);
        tell(x, "10: from the incremental one before", 3, 1, 0, 4, 4, 1);
        Calls.wholeBackup(x, false);
        tell(x, "10: nothing changed", 4, 1, 0, 4, 4, 0);
        Due.same("10: page 0", x.page(0, 3), 2);
        Due.same("10: page 1", x.page(1, 3), 2);
        Due.same("10: page 2", x.page(2, 3), 1);
    }

    private static void givenUpOnesLeaveNothing() {
        PageRescue x = new PageRescue(8, 1);
        Calls.wholeBackup(x, true);
        Calls.committed(x, 1, 0);
        x.backup(true);
        x.step(7);
        x.crash(-1);
        Due.same("11: it has no number", x.count(2), 1);
        Due.same("11: its images are gone", x.page(0, 3), 1);
        Due.same("11: its START counts for nothing", x.backup(false), PageRescue.DONE);
        x.step(8);
        tell(x, "11: the one after", 2, 1, 0, 2, 2, 1);
    }

    private static void oldestFullIsDropped() {
        for (int keep = 1; keep <= 3; keep++) {
            PageRescue x = new PageRescue(4, keep);
            for (int made = 1; made <= 5; made++) {
                Calls.wholeBackup(x, true);
                for (int number = 1; number <= made; number++) {
                    Due.same("16: kept of " + made + " with keep " + keep, x.ofBackup(number, 0), number > made - keep ? 1 : 0);
                }
                Due.same("15: images with keep " + keep, x.page(7, 3), Math.min(made, keep));
            }
        }
    }

    private static void dropReachesToTheNextFull() {
        PageRescue x = new PageRescue(8, 2);
        boolean[] full = {true, false, false, true, false, true};
        for (boolean kind : full) {
            Calls.committed(x, 1, 0);
            Calls.wholeBackup(x, kind);
        }
        int[] kept = {0, 0, 0, 1, 1, 1};
        for (int i = 0; i < kept.length; i++) {
            Due.same("16: kept " + (i + 1), x.ofBackup(i + 1, 0), kept[i]);
        }
        tell(x, "16: a dropped one is told of", 2, 0, 0, 4, 4, 1);
        Due.same("15: images of page 0", x.page(0, 3), 3);
        Due.same("15: images of page 1", x.page(1, 3), 2);
        Calls.wholeBackup(x, false);
        Due.same("16: an incremental one drops nothing", x.ofBackup(4, 0), 1);
        x.backup(true);
        x.step(7);
        Due.same("16: nor does a running one", x.ofBackup(4, 0), 1);
        x.step(1);
        int[] then = {0, 0, 0, 0, 0, 1, 1, 1};
        for (int i = 0; i < then.length; i++) {
            Due.same("16: kept then " + (i + 1), x.ofBackup(i + 1, 0), then[i]);
        }
    }

    private static void purgeWholeSegmentsUpToTheStart() {
        for (int records = 0; records <= 12; records++) {
            PageRescue x = new PageRescue(4, 1);
            Calls.wholeBackup(x, true);
            Calls.emptyCommits(x, records);
            x.backup(true);
            Calls.emptyCommits(x, 13 - records);
            x.archive();
            x.archive();
            x.archive();
            Due.same("17: archived", x.count(4), 3);
            x.step(8);
            Due.same("17: archived and not PURGED with START " + records, x.count(4), 3 - records / 4);
        }
    }

    private static void purgeOnlyWhenOneIsDropped() {
        PageRescue x = new PageRescue(4, 2);
        Calls.emptyCommits(x, 8);
        x.archive();
        Calls.wholeBackup(x, true);
        Due.same("17: nothing is dropped", x.count(4), 1);
        Calls.wholeBackup(x, false);
        Calls.wholeBackup(x, true);
        Due.same("17: nothing is dropped yet", x.count(4), 1);
        Calls.wholeBackup(x, true);
        Due.same("17: PURGED", x.count(4), 0);
        x.archive();
        Due.same("17: archived later", x.count(4), 1);
        Calls.wholeBackup(x, false);
        Due.same("17: an incremental one PURGES nothing", x.count(4), 1);
        Calls.wholeBackup(x, true);
        Due.same("17: PURGED with the next drop", x.count(4), 0);
        Due.same("17: online and LEFT are as they were", x.count(3) * 100 + x.count(5), 16);
    }

    private static void purgeUpToTheOldestThatIsStillKept() {
        PageRescue x = new PageRescue(4, 2);
        Calls.wholeBackup(x, true);
        Calls.emptyCommits(x, 5);
        Calls.wholeBackup(x, true);
        Calls.wholeBackup(x, false);
        Calls.emptyCommits(x, 7);
        x.archive();
        x.archive();
        x.archive();
        Calls.wholeBackup(x, true);
        Due.same("17: the first alone is not above START 5", x.count(4), 2);
        Calls.wholeBackup(x, true);
        Due.same("17: all three are not above START 12", x.count(4), 0);
    }

    private static void purgeArchivedOnesAlone() {
        PageRescue x = new PageRescue(4, 1);
        Calls.wholeBackup(x, true);
        Calls.emptyCommits(x, 9);
        Calls.wholeBackup(x, true);
        Due.same("17: online ones are not PURGED", x.count(3), 3);
        Due.same("17: none archived", x.count(4), 0);
        Due.same("13: nothing was PURGED", x.restore(1), 0);
        x.archive();
        Due.same("17: archived after the drop", x.count(4), 1);
        Due.same("13: still nothing was PURGED", x.restore(1), 0);
    }

    private static void ofBackupOfWrongNumbers() {
        PageRescue x = new PageRescue(4, 1);
        Due.same("16: none finished", x.ofBackup(1, 0), REFUSED);
        x.backup(true);
        x.step(7);
        Due.same("16: a running one", x.ofBackup(1, 0), REFUSED);
        x.step(1);
        int[] numbers = {0, -1, 2, Integer.MIN_VALUE, Integer.MAX_VALUE};
        for (int number : numbers) {
            Due.same("16: ofBackup(" + number + ", 0)", x.ofBackup(number, 0), REFUSED);
        }
        int[] whats = {-1, 5, Integer.MIN_VALUE, Integer.MAX_VALUE};
        for (int what : whats) {
            Due.same("16: ofBackup(1, " + what + ")", x.ofBackup(1, what), REFUSED);
        }
    }

    private static void mostBackupsOfOneObject() {
        PageRescue x = new PageRescue(4, 3);
        for (int made = 0; made < 256; made++) {
            Due.same("9: backup " + made, x.backup(made == 0), PageRescue.DONE);
            if (made < 255) {
                Due.same("10: step of " + made, x.step(8), 0);
            }
        }
        Due.same("10: the 512th call", x.step(8), 0);
    }
}
