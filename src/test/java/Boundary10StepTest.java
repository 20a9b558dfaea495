/** Promise 10: the n of step, no backup running, fewer pages left than n, and a page's number at the START. */
public final class Boundary10StepTest {
    public static void main(String[] args) {
        Cases.runAll(Boundary10StepTest.class, "promise10");
    }

    static void promise10_n1IsTheLeastTaken() {
        PageRescue x = States.running(true, 0);
        Due.same("step(1)", x.step(1), 7);
        Due.same("pages to visit", x.count(7), 7);
    }

    static void promise10_n8IsTheGreatestTaken() {
        PageRescue x = States.running(true, 0);
        Due.same("step(8)", x.step(8), 0);
        Due.same("finished", x.count(2), 1);
    }

    static void promise10_everyNBetweenIsTaken() {
        for (int n = 1; n <= 8; n++) {
            Due.same("step(" + n + ")", States.running(true, 0).step(n), 8 - n);
            Due.same("step(" + n + ")", States.running(false, 0).step(n), 8 - n);
        }
    }

    static void promise10_n0IsRefused() {
        refused(0);
    }

    static void promise10_nMinus1IsRefused() {
        refused(-1);
    }

    static void promise10_n9IsRefused() {
        refused(9);
    }

    static void promise10_nLeastIntIsRefused() {
        refused(Integer.MIN_VALUE);
    }

    static void promise10_nGreatestIntIsRefused() {
        refused(Integer.MAX_VALUE);
    }

    static void promise10_noBackupYetIsRefused() {
        noneRunning("new", States.fresh());
        Unchanged.after("new", States::fresh, x -> x.step(1), PageRescue.REFUSED);
        Unchanged.after("new", States::fresh, x -> x.step(8), PageRescue.REFUSED);
    }

    static void promise10_finishedOneIsRefused() {
        Unchanged.after("finished", States::quiet, x -> x.step(1), PageRescue.REFUSED);
        Unchanged.after("finished", States::quiet, x -> x.step(8), PageRescue.REFUSED);
    }

    static void promise10_givenUpOneIsRefused() {
        PageRescue x = States.running(true, 3);
        x.crash(-1);
        noneRunning("after crash", x);
        PageRescue y = States.running(false, 3);
        y.lose();
        noneRunning("after lose", y);
    }

    static void promise10_exactlyAsManyAsAreLeftFinishes() {
        for (int visited = 1; visited < 8; visited++) {
            PageRescue x = States.running(true, visited);
            Due.same("step", x.step(8 - visited), 0);
            Due.same("images", x.ofBackup(1, 4), 8);
        }
    }

    static void promise10_oneFewerThanAreLeftDoesNotFinish() {
        for (int visited = 0; visited < 7; visited++) {
            PageRescue x = States.running(true, visited);
            Due.same("step", x.step(7 - visited), 1);
            Due.same("finished", x.count(2), 0);
            Due.same("pages to visit", x.count(7), 1);
        }
    }

    static void promise10_moreThanAreLeftVisitsThoseThatAre() {
        for (int visited = 1; visited < 8; visited++) {
            for (int n = 9 - visited; n <= 8; n++) {
                PageRescue x = States.running(true, visited);
                Due.same("step(" + n + ")", x.step(n), 0);
                Due.same("images", x.ofBackup(1, 4), 8);
                Due.same("none runs", x.count(7), -2);
            }
        }
    }

    static void promise10_fullTakesPagesWithNumber0() {
        PageRescue x = new PageRescue(4, 1);
        Calls.wholeBackup(x, true);
        Due.same("images", x.ofBackup(1, 4), 8);
        for (int page = 0; page < 8; page++) {
            Due.same("image of " + page, x.page(page, 3), 1);
        }
    }

    static void promise10_incrementalWithNoRecordTakesNone() {
        PageRescue x = new PageRescue(4, 1);
        Calls.wholeBackup(x, true);
        Calls.wholeBackup(x, false);
        Due.same("images", x.ofBackup(2, 4), 0);
        Due.same("kept", x.ofBackup(2, 0), 1);
        Due.same("END", x.ofBackup(2, 3), 0);
    }

    static void promise10_numberAtTheStartIsNotTaken() {
        PageRescue x = new PageRescue(8, 1);
        x.begin();
        x.put(0, 1, true);
        Calls.wholeBackup(x, true);
        Due.same("START", x.ofBackup(1, 2), 1);
        Due.same("number of the page", x.page(0, 0), 1);
        Calls.wholeBackup(x, false);
        Due.same("images", x.ofBackup(2, 4), 0);
    }

    static void promise10_numberJustAboveTheStartIsTaken() {
        PageRescue x = new PageRescue(8, 1);
        x.begin();
        Calls.wholeBackup(x, true);
        x.put(0, 1, true);
        Calls.wholeBackup(x, false);
        Due.same("START", x.ofBackup(1, 2), 0);
        Due.same("images", x.ofBackup(2, 4), 1);
        Due.same("of page 0", x.page(0, 3), 2);
        Due.same("of page 1", x.page(1, 3), 1);
    }

    /** Between START and END of the one before: it is above the START, so it is taken again. */
    static void promise10_numberAboveTheStartAndNotAboveTheEndIsTaken() {
        PageRescue x = new PageRescue(8, 1);
        x.begin();
        x.backup(true);
        x.put(31, 1, true);
        x.step(8);
        Due.same("END", x.ofBackup(1, 3), 1);
        Calls.wholeBackup(x, false);
        Due.same("images", x.ofBackup(2, 4), 1);
        Due.same("of page 7", x.page(7, 3), 2);
    }

    static void promise10_startOfTheIncrementalOneBeforeCounts() {
        PageRescue x = new PageRescue(8, 1);
        Calls.wholeBackup(x, true);
        Calls.committed(x, 1, 0);
        Calls.wholeBackup(x, false);
        Calls.wholeBackup(x, false);
        Due.same("images of the first", x.ofBackup(2, 4), 1);
        Due.same("images of the second", x.ofBackup(3, 4), 0);
    }

    static void promise10_startOfAGivenUpOneDoesNotCount() {
        PageRescue x = new PageRescue(8, 1);
        Calls.wholeBackup(x, true);
        Calls.committed(x, 1, 0);
        x.backup(true);
        x.step(7);
        x.crash(-1);
        Calls.wholeBackup(x, false);
        Due.same("images", x.ofBackup(2, 4), 1);
    }

    static void promise10_endWithNoRecordIs0() {
        PageRescue x = new PageRescue(4, 1);
        Calls.wholeBackup(x, true);
        Due.same("END", x.ofBackup(1, 3), 0);
    }

    static void promise10_endIsTheLatestRecordAtTheLastStep() {
        PageRescue x = new PageRescue(8, 1);
        x.backup(true);
        x.step(7);
        Calls.emptyCommits(x, 3);
        x.step(1);
        Calls.emptyCommits(x, 1);
        Due.same("END", x.ofBackup(1, 3), 3);
    }

    /** Page 7 is left out: with its visit the backup is finished. */
    static void promise10_pageChangedAfterItsVisitHasItsOldImage() {
        for (int page = 0; page < 7; page++) {
            PageRescue x = new PageRescue(8, 1);
            Calls.committed(x, 1, 4 * page);
            x.backup(true);
            x.step(page + 1);
            Calls.committed(x, 2, 4 * page);
            x.step(8);
            Due.same("REDONE, page " + page, x.lose(), 1);
        }
    }

    static void promise10_pageChangedBeforeItsVisitHasItsNewImage() {
        for (int page = 1; page < 8; page++) {
            PageRescue x = new PageRescue(8, 1);
            Calls.committed(x, 1, 4 * page);
            x.backup(true);
            x.step(page);
            Calls.committed(x, 2, 4 * page);
            x.step(8);
            Due.same("REDONE, page " + page, x.lose(), 0);
        }
    }

    static void promise10_incrementalTakesThePagesNumberAtItsVisit() {
        for (int page = 0; page < 7; page++) {
            PageRescue x = new PageRescue(8, 1);
            Calls.wholeBackup(x, true);
            Calls.committed(x, 1, 4 * page, 4 * page + 4);
            x.backup(false);
            x.step(page + 1);
            Calls.committed(x, 2, 4 * page, 4 * page + 4);
            x.step(8);
            Due.same("images", x.ofBackup(2, 4), 2);
            Due.same("REDONE, page " + page + " alone", x.lose(), 1);
        }
    }

    static void promise10_incrementalLeavesOutAPageChangedAfterItsVisit() {
        PageRescue x = new PageRescue(8, 1);
        Calls.wholeBackup(x, true);
        x.backup(false);
        x.step(4);
        Calls.committed(x, 1, 12, 16);
        x.step(4);
        Due.same("images", x.ofBackup(2, 4), 1);
        Due.same("of page 3, visited before", x.page(3, 3), 1);
        Due.same("of page 4, visited after", x.page(4, 3), 2);
    }

    private static void refused(int n) {
        Unchanged.inAllStates(x -> x.step(n), PageRescue.REFUSED);
    }

    private static void noneRunning(String state, PageRescue x) {
        String before = Calls.allAnswers(x);
        for (int n = 1; n <= 8; n++) {
            Due.same("step(" + n + ") " + state, x.step(n), PageRescue.REFUSED);
        }
        Due.same("all answers " + state, Calls.allAnswers(x), before);
    }
}
