/** Promise 12: lose with no record, with no backup, with a running one, with just enough LEFT for the UNDO. */
public final class Boundary12LoseTest {
    public static void main(String[] args) {
        Cases.runAll(Boundary12LoseTest.class, "promise12");
    }

    static void promise12_noRecordYetAnswers0() {
        PageRescue x = new PageRescue(4, 1);
        Due.same("lose", x.lose(), 0);
        Due.same("records", x.count(0), 0);
        for (int page = 0; page < 8; page++) {
            Due.same("readable " + page, x.page(page, 2), 0);
            Due.same("its number", x.page(page, 1), 0);
        }
    }

    static void promise12_noBackupIsRedoneFromNumber0() {
        PageRescue x = new PageRescue(8, 1);
        Calls.committed(x, 1, 0, 9, 18, 31);
        for (int page = 0; page < 8; page++) {
            x.write(page);
        }
        Due.same("lose", x.lose(), 4);
        Due.same("get", x.get(31), 1);
    }

    static void promise12_backupWithEveryPageLeavesNothingToRedo() {
        PageRescue x = new PageRescue(8, 1);
        Calls.committed(x, 1, 0, 9, 18, 31);
        Calls.wholeBackup(x, true);
        Due.same("lose", x.lose(), 0);
        Due.same("get", x.get(9), 1);
    }

    static void promise12_backupThatLacksOneVisitIsGivenUp() {
        PageRescue x = States.running(true, 7);
        Due.same("lose", x.lose(), 2);
        Due.same("none runs", x.count(7), -2);
        Due.same("none is finished", x.count(2), 0);
    }

    static void promise12_secondTimeAnswersTheSame() {
        PageRescue x = States.quiet();
        int redone = x.lose();
        Unchanged.after("lost", () -> {
            PageRescue y = States.quiet();
            y.lose();
            return y;
        }, PageRescue::lose, redone);
    }

    static void promise12_openWithoutChangesIsClosedWithoutARecord() {
        PageRescue x = States.fullAndOpen();
        Due.same("lose", x.lose(), 2);
        Due.same("records", x.count(0), 16);
        Due.same("open no more", x.count(6), 0);
    }

    static void promise12_undoWithLeastLeftUsesItUp() {
        for (int changes = 1; changes <= 4; changes++) {
            PageRescue x = States.openWith(changes, changes + 1);
            Due.same("lose", x.lose(), changes);
            Due.same("LEFT", x.count(5), 0);
            Due.same("open no more", x.count(6), 0);
        }
    }

    static void promise12_purgedSegmentsAreNotNeeded() {
        PageRescue x = States.purged();
        Due.same("lose", x.lose(), 1);
        Due.same("a key from the backup", x.get(8), 1);
        Due.same("a key from the log", x.get(4), 2);
    }

    static void promise12_numbersOnTheDiskStay() {
        PageRescue x = new PageRescue(8, 1);
        Calls.committed(x, 1, 0, 31);
        x.write(0);
        x.write(7);
        x.lose();
        Due.same("page 0", x.page(0, 1), 1);
        Due.same("page 7", x.page(7, 1), 2);
        for (int page = 0; page < 8; page++) {
            Due.same("readable " + page, x.page(page, 2), 0);
        }
    }

    static void promise12_tableIsAsBeforeTheOpenTransaction() {
        PageRescue x = States.quiet();
        String before = Calls.table(x);
        x.begin();
        x.put(0, 7, false);
        x.put(31, 7, true);
        x.put(31, 8, true);
        Due.same("the UNDO before and these", x.lose(), 5);
        Due.same("the table", Calls.table(x), before);
        Due.same("the CHANGES by put and those of the UNDO", x.lose(), 8);
        Due.same("the table again", Calls.table(x), before);
    }

    static void promise12_imagesInBackupsStay() {
        PageRescue x = States.quiet();
        int images = x.page(1, 3);
        x.lose();
        Due.same("images", x.page(1, 3), images);
        Due.same("finished backups", x.count(2), 2);
    }
}
