/** Promise 11: the pages of crash, no record, no image, images with equal numbers, just enough LEFT for the UNDO. */
public final class Boundary11CrashTest {
    public static void main(String[] args) {
        Cases.runAll(Boundary11CrashTest.class, "promise11");
    }

    static void promise11_pageMinus1IsTakenAndTearsNone() {
        PageRescue x = States.quiet();
        String readable = readable(x);
        Due.same("the CHANGE and the UNDO of key 0", x.crash(-1), 2);
        Due.same("readable", readable(x), readable);
    }

    static void promise11_page0IsTheFirstTorn() {
        torn(0);
    }

    static void promise11_page7IsTheLastTorn() {
        torn(7);
    }

    static void promise11_pagesBetweenAreTorn() {
        for (int page = 1; page < 7; page++) {
            torn(page);
        }
    }

    static void promise11_pageMinus2IsRefused() {
        refused(-2);
    }

    static void promise11_page8IsRefused() {
        refused(8);
    }

    static void promise11_pageLeastIntIsRefused() {
        refused(Integer.MIN_VALUE);
    }

    static void promise11_pageGreatestIntIsRefused() {
        refused(Integer.MAX_VALUE);
    }

    static void promise11_noRecordYetAnswers0() {
        for (int page = -1; page < 8; page++) {
            PageRescue x = new PageRescue(4, 1);
            Due.same("crash(" + page + ")", x.crash(page), 0);
            Due.same("records", x.count(0), 0);
        }
    }

    static void promise11_tornPageStaysTorn() {
        PageRescue x = new PageRescue(4, 1);
        Calls.committed(x, 1, 0);
        x.write(0);
        Due.same("crash", x.crash(0), 1);
        Due.same("crash again", x.crash(0), 1);
        Due.same("another", x.crash(-1), 1);
        Due.same("readable", x.page(0, 2), 0);
        Due.same("its number", x.page(0, 1), 1);
    }

    static void promise11_noImageAtAllIsRedoneFromNumber0() {
        PageRescue x = new PageRescue(8, 1);
        Calls.committed(x, 1, 0, 1, 2, 3);
        x.write(0);
        Due.same("torn, with no backup", x.crash(0), 4);
    }

    static void promise11_changeWithTheImagesNumberIsNotRedone() {
        PageRescue x = new PageRescue(8, 1);
        x.begin();
        x.put(0, 1, true);
        x.write(0);
        Due.same("image", x.page(0, 1), 1);
        Due.same("the latest record is that CHANGE", x.crash(-1), 0);
    }

    static void promise11_changeJustAboveTheImagesNumberIsRedone() {
        PageRescue x = new PageRescue(8, 1);
        x.begin();
        x.put(0, 1, true);
        x.write(0);
        x.put(0, 2, true);
        Due.same("the latest record is REDONE too", x.crash(-1), 1);
    }

    static void promise11_equalNumbersOnDiskAndInABackup() {
        PageRescue x = new PageRescue(8, 1);
        Calls.committed(x, 1, 0, 1);
        x.write(0);
        Calls.wholeBackup(x, true);
        Calls.committed(x, 2, 0);
        Due.same("readable", x.crash(-1), 1);
        Due.same("torn", x.crash(0), 1);
        Due.same("get", x.get(0), 2);
    }

    static void promise11_backupsImageOneAboveTheDisksIsBest() {
        PageRescue x = new PageRescue(8, 1);
        x.begin();
        x.put(0, 1, true);
        x.write(0);
        x.put(0, 2, true);
        Calls.wholeBackup(x, true);
        x.put(0, 3, true);
        Due.same("from the backup", x.crash(-1), 1);
    }

    static void promise11_disksImageOneAboveTheBackupsIsBest() {
        PageRescue x = new PageRescue(8, 1);
        x.begin();
        x.put(0, 1, true);
        Calls.wholeBackup(x, true);
        x.put(0, 2, true);
        x.write(0);
        x.put(0, 3, true);
        Due.same("from the disk", x.crash(-1), 1);
    }

    /** The latest backup has no image of page 0, the one before it has. */
    static void promise11_olderKeptBackupHasTheBestImage() {
        PageRescue x = new PageRescue(8, 2);
        Calls.committed(x, 1, 0, 4);
        Calls.wholeBackup(x, true);
        Calls.committed(x, 2, 4);
        Calls.wholeBackup(x, false);
        Due.same("images of page 0", x.page(0, 3), 1);
        Due.same("nothing to REDO", x.crash(-1), 0);
        Calls.wholeBackup(x, true);
        Calls.committed(x, 3, 0);
        Calls.wholeBackup(x, false);
        Calls.wholeBackup(x, false);
        Due.same("nothing to REDO again", x.crash(-1), 0);
        Due.same("get", x.get(0) * 10 + x.get(4), 32);
    }

    static void promise11_tornBestImageLeavesTheBackups() {
        PageRescue x = new PageRescue(8, 1);
        x.begin();
        x.put(0, 1, true);
        Calls.wholeBackup(x, true);
        x.put(0, 2, true);
        x.write(0);
        x.put(0, 3, true);
        Due.same("from the backup", x.crash(0), 2);
    }

    static void promise11_backupThatLacksOneVisitIsGivenUp() {
        for (int visited = 0; visited < 8; visited++) {
            PageRescue x = States.running(true, visited);
            Due.same("crash", x.crash(-1), 2);
            Due.same("none runs", x.count(7), -2);
            Due.same("none is finished", x.count(2), 0);
            Due.same("no image is left", x.page(0, 3), 0);
        }
    }

    static void promise11_openWithoutChangesIsClosedWithoutARecord() {
        PageRescue x = States.fullAndOpen();
        Due.same("crash", x.crash(-1), 2);
        Due.same("records", x.count(0), 16);
        Due.same("open no more", x.count(6), 0);
    }

    static void promise11_undoWithLeastLeftUsesItUp() {
        for (int changes = 1; changes <= 4; changes++) {
            PageRescue x = States.openWith(changes, changes + 1);
            Due.same("crash", x.crash(-1), changes);
            Due.same("LEFT", x.count(5), 0);
            Due.same("online", x.count(3), 4);
            Due.same("open no more", x.count(6), 0);
            Due.same("given back", x.get(4), PageRescue.ABSENT);
        }
    }

    static void promise11_changesOfTheUndoAreNotCounted() {
        PageRescue x = States.openWith(4, 12);
        Due.same("the four puts", x.crash(-1), 4);
        Due.same("with the four of the UNDO", x.crash(-1), 8);
    }

    static void promise11_noTransactionMakesNoRecord() {
        PageRescue x = States.quiet();
        int records = x.count(0);
        x.crash(-1);
        Due.same("records", x.count(0), records);
    }

    static void promise11_imagesOnTheDiskStay() {
        PageRescue x = new PageRescue(8, 1);
        Calls.committed(x, 1, 0);
        x.write(0);
        Calls.committed(x, 2, 0, 31);
        Calls.wholeBackup(x, true);
        Due.same("from the backup", x.crash(-1), 0);
        Due.same("number of the older image on the disk", x.page(0, 1), 1);
        Due.same("number of the first image on the disk", x.page(7, 1), 0);
        Due.same("readable", x.page(0, 2), 1);
    }

    /** Pages from the disk, from the backup and from number 0, each with CHANGES to REDO. */
    static void promise11_changesOfAllPagesAreCountedTogether() {
        PageRescue x = new PageRescue(8, 1);
        Calls.committed(x, 1, 0, 4, 8, 12);
        Calls.committed(x, 1, 16, 20, 24, 28);
        Due.same("from number 0", x.crash(-1), 8);
        x.write(0);
        x.write(7);
        Due.same("two from the disk", x.crash(-1), 6);
        Due.same("one of them torn", x.crash(7), 7);
        Calls.wholeBackup(x, true);
        Calls.committed(x, 2, 1, 5, 13, 29);
        Due.same("all but the torn one from both", x.crash(0), 4);
    }

    static void promise11_tableIsAsBefore() {
        PageRescue x = everyKeyPut();
        String before = Calls.table(x);
        x.crash(-1);
        Due.same("nothing torn", Calls.table(x), before);
        for (int page = 0; page < 8; page++) {
            x.crash(page);
            Due.same("torn " + page, Calls.table(x), before);
        }
        x.begin();
        x.put(0, 7, false);
        x.put(17, 7, true);
        x.crash(4);
        Due.same("and undone", Calls.table(x), before);
    }

    static void promise11_scratchAreaStays() {
        PageRescue x = States.quiet();
        x.crash(0);
        Due.same("look", x.look(31), 1);
        PageRescue y = new PageRescue(4, 1);
        Calls.committed(y, 1, 0);
        y.crash(-1);
        Due.same("not open", y.look(0), PageRescue.NONE);
    }

    /** Each key has another value; some pages are on the disk, some in a backup, some on none as they are now. */
    private static PageRescue everyKeyPut() {
        PageRescue x = new PageRescue(8, 1);
        for (int key = 0; key < 32; key += 4) {
            x.begin();
            for (int i = key; i < key + 4; i++) {
                x.put(i, 100 + i, true);
            }
            x.commit();
            x.archive();
            x.archive();
            x.write(key / 8);
            if (key == 16) {
                Calls.wholeBackup(x, true);
            }
        }
        Due.same("records of the state", x.count(0), 40);
        return x;
    }

    private static void torn(int page) {
        PageRescue x = new PageRescue(4, 1);
        Calls.committed(x, 1, 4 * page, 4 * page + 3);
        x.write(page);
        Due.same("nothing torn", x.crash(-1), 0);
        Due.same("crash(" + page + ")", x.crash(page), 2);
        for (int other = 0; other < 8; other++) {
            Due.same("readable " + other, x.page(other, 2), other == page ? 0 : 1);
        }
    }

    private static void refused(int page) {
        Unchanged.inAllStates(x -> x.crash(page), PageRescue.REFUSED);
    }

    private static String readable(PageRescue x) {
        StringBuilder all = new StringBuilder();
        for (int page = 0; page < 8; page++) {
            all.append(x.page(page, 2));
        }
        return all.toString();
    }
}
