/** Promise 7: the pages of write, one that has no CHANGES, one that is torn. */
public final class Boundary07WriteTest {
    public static void main(String[] args) {
        Cases.runAll(Boundary07WriteTest.class, "promise7");
    }

    static void promise7_page0IsTheFirstTaken() {
        taken(0);
    }

    static void promise7_page7IsTheLastTaken() {
        taken(7);
    }

    static void promise7_pagesBetweenAreTaken() {
        for (int page = 1; page < 7; page++) {
            taken(page);
        }
    }

    static void promise7_pageMinus1IsRefused() {
        refused(-1);
    }

    static void promise7_page8IsRefused() {
        refused(8);
    }

    static void promise7_pageLeastIntIsRefused() {
        refused(Integer.MIN_VALUE);
    }

    static void promise7_pageGreatestIntIsRefused() {
        refused(Integer.MAX_VALUE);
    }

    static void promise7_noChangeYetAnswers0() {
        PageRescue x = new PageRescue(4, 1);
        Due.same("write", x.write(3), 0);
        Due.same("on the disk", x.page(3, 1), 0);
        Due.same("readable", x.page(3, 2), 1);
        Calls.emptyCommits(x, 2);
        Due.same("write after commits alone", x.write(3), 0);
    }

    static void promise7_noChangeYetMakesATornImageReadable() {
        PageRescue x = new PageRescue(4, 1);
        x.crash(3);
        Due.same("torn", x.page(3, 2), 0);
        Due.same("write", x.write(3), 0);
        Due.same("readable", x.page(3, 2), 1);
    }

    static void promise7_afterLoseOneAloneIsReadable() {
        PageRescue x = new PageRescue(4, 1);
        x.lose();
        x.write(0);
        for (int page = 0; page < 8; page++) {
            Due.same("readable " + page, x.page(page, 2), page == 0 ? 1 : 0);
        }
    }

    static void promise7_secondTimeAnswersTheSame() {
        PageRescue x = new PageRescue(4, 1);
        Calls.committed(x, 1, 0, 1);
        Due.same("write", x.write(0), 2);
        Unchanged.after("written", () -> {
            PageRescue y = new PageRescue(4, 1);
            Calls.committed(y, 1, 0, 1);
            y.write(0);
            return y;
        }, y -> y.write(0), 2);
    }

    static void promise7_changesOfTheOpenTransactionAreWritten() {
        PageRescue x = new PageRescue(8, 1);
        x.begin();
        x.put(31, 1, true);
        Due.same("write", x.write(7), 1);
        Due.same("nothing to REDO", x.crash(-1), 0);
        Due.same("undone though it was written", x.get(31), PageRescue.ABSENT);
        Due.same("the disk stays", x.page(7, 1), 1);
        Due.same("the UNDO is REDONE", x.crash(-1), 1);
    }

    static void promise7_withLeft0IsTaken() {
        PageRescue x = States.full();
        Due.same("write", x.write(7), 2);
        Due.same("records", x.count(0), 16);
    }

    private static void taken(int page) {
        PageRescue x = new PageRescue(4, 1);
        Calls.committed(x, 1, 4 * page, 4 * page + 3);
        Due.same("write(" + page + ")", x.write(page), 2);
        for (int other = 0; other < 8; other++) {
            Due.same("on the disk " + other, x.page(other, 1), other == page ? 2 : 0);
        }
        Due.same("records", x.count(0), 3);
    }

    private static void refused(int page) {
        Unchanged.inAllStates(x -> x.write(page), PageRescue.REFUSED);
    }
}
