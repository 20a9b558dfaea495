/** Promise 15: the numbers of page, and what is told of a page that nothing has happened to yet. */
public final class Boundary15PageTest {
    private static final int REFUSED = PageRescue.REFUSED;

    public static void main(String[] args) {
        Cases.runAll(Boundary15PageTest.class, "promise15");
    }

    static void promise15_page0IsTheFirstTold() {
        told(0);
    }

    static void promise15_page7IsTheLastTold() {
        told(7);
    }

    static void promise15_pagesBetweenAreTold() {
        for (int page = 1; page < 7; page++) {
            told(page);
        }
    }

    static void promise15_pageMinus1IsRefused() {
        pageIsRefused(-1);
    }

    static void promise15_page8IsRefused() {
        pageIsRefused(8);
    }

    static void promise15_pageLeastIntIsRefused() {
        pageIsRefused(Integer.MIN_VALUE);
    }

    static void promise15_pageGreatestIntIsRefused() {
        pageIsRefused(Integer.MAX_VALUE);
    }

    static void promise15_whatMinus1IsRefused() {
        whatIsRefused(-1);
    }

    static void promise15_what4IsRefused() {
        whatIsRefused(4);
    }

    static void promise15_whatLeastIntIsRefused() {
        whatIsRefused(Integer.MIN_VALUE);
    }

    static void promise15_whatGreatestIntIsRefused() {
        whatIsRefused(Integer.MAX_VALUE);
    }

    static void promise15_bothOutOfRangeIsRefused() {
        Unchanged.inAllStates(x -> x.page(8, 4), REFUSED);
        Unchanged.inAllStates(x -> x.page(-1, -1), REFUSED);
        Unchanged.inAllStates(x -> x.page(Integer.MIN_VALUE, Integer.MAX_VALUE), REFUSED);
    }

    static void promise15_newObject() {
        PageRescue x = new PageRescue(4, 1);
        for (int page = 0; page < 8; page++) {
            Due.same("number", x.page(page, 0), 0);
            Due.same("number on the disk", x.page(page, 1), 0);
            Due.same("readable", x.page(page, 2), 1);
            Due.same("images in backups", x.page(page, 3), 0);
        }
    }

    static void promise15_imagesOfARunningBackupDoNotCount() {
        PageRescue x = States.running(true, 7);
        Due.same("running", x.page(0, 3), 0);
        x.step(1);
        Due.same("finished", x.page(0, 3), 1);
    }

    static void promise15_imagesOfAGivenUpBackupDoNotCount() {
        PageRescue x = States.running(true, 7);
        x.crash(-1);
        Due.same("given up", x.page(0, 3), 0);
    }

    static void promise15_imagesOfDroppedBackupsDoNotCount() {
        for (int keep = 1; keep <= 3; keep++) {
            PageRescue x = new PageRescue(4, keep);
            for (int made = 1; made <= keep + 2; made++) {
                Calls.wholeBackup(x, true);
                Due.same("keep " + keep, x.page(7, 3), Math.min(made, keep));
            }
        }
    }

    static void promise15_incrementalWithoutTheImageDoesNotCount() {
        PageRescue x = new PageRescue(8, 1);
        Calls.wholeBackup(x, true);
        Calls.committed(x, 1, 0);
        Calls.wholeBackup(x, false);
        Due.same("page 0", x.page(0, 3), 2);
        Due.same("page 1", x.page(1, 3), 1);
    }

    static void promise15_numberOnTheDiskStaysWhenTorn() {
        PageRescue x = new PageRescue(4, 1);
        Calls.committed(x, 1, 31);
        x.write(7);
        x.crash(7);
        Due.same("number", x.page(7, 1), 1);
        Due.same("readable", x.page(7, 2), 0);
    }

    static void promise15_askingChangesNothing() {
        for (int what = 0; what <= 3; what++) {
            int w = what;
            int due = States.busy().page(7, w);
            Unchanged.after("busy", States::busy, x -> x.page(7, w), due);
        }
    }

    private static void told(int page) {
        PageRescue x = new PageRescue(8, 1);
        Calls.committed(x, 1, 4 * page, 4 * page + 3);
        x.write(page);
        Calls.committed(x, 1, 4 * page);
        Calls.wholeBackup(x, true);
        int[] due = {4, 2, 1, 1};
        for (int what = 0; what < due.length; what++) {
            Due.same("page(" + page + ", " + what + ")", x.page(page, what), due[what]);
        }
    }

    private static void pageIsRefused(int page) {
        for (int what = 0; what <= 3; what++) {
            int w = what;
            Unchanged.inAllStates(x -> x.page(page, w), REFUSED);
        }
    }

    private static void whatIsRefused(int what) {
        for (int page = 0; page < 8; page++) {
            int p = page;
            Unchanged.inAllStates(x -> x.page(p, what), REFUSED);
        }
    }
}
