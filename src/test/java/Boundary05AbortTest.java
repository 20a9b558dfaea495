/** Promise 5: abort without a transaction, with no CHANGES and with four, and with just enough LEFT. */
public final class Boundary05AbortTest {
    public static void main(String[] args) {
        Cases.runAll(Boundary05AbortTest.class, "promise5");
    }

    static void promise5_noTransactionIsRefused() {
        Unchanged.inEach(States.withoutTransaction(), PageRescue::abort, PageRescue.REFUSED);
    }

    static void promise5_noTransactionWhileABackupRunsIsRefused() {
        Unchanged.after("running", () -> States.running(false, 3), PageRescue::abort, PageRescue.REFUSED);
    }

    static void promise5_withoutChangesMakesNoRecord() {
        PageRescue x = new PageRescue(4, 1);
        x.begin();
        Due.same("abort", x.abort(), 0);
        Due.same("records", x.count(0), 0);
        Due.same("open no more", x.count(6), 0);
    }

    static void promise5_withoutChangesAndLeft0IsTaken() {
        PageRescue x = States.fullAndOpen();
        Due.same("abort", x.abort(), 0);
        Due.same("records", x.count(0), 16);
        Due.same("open no more", x.count(6), 0);
    }

    static void promise5_oneChangeMakesTwoRecords() {
        undone(1, 15);
    }

    static void promise5_fourChangesMakeFiveRecords() {
        undone(4, 12);
    }

    static void promise5_leastLeftIsEnoughAndUsedUp() {
        for (int changes = 1; changes <= 4; changes++) {
            undone(changes, changes + 1);
        }
    }

    static void promise5_afterFullAllIsGivenBack() {
        PageRescue x = States.openWith(2, 3);
        Due.same("put", x.put(0, 9, true), PageRescue.FULL);
        Due.same("abort", x.abort(), 2);
        Due.same("LEFT", x.count(5), 0);
        Due.same("get", x.get(4), PageRescue.ABSENT);
        Due.same("get", x.get(8), PageRescue.ABSENT);
    }

    static void promise5_secondInARowIsRefused() {
        PageRescue x = new PageRescue(8, 1);
        Calls.aborted(x, 1, 0);
        Due.same("abort", x.abort(), PageRescue.REFUSED);
        Due.same("records", x.count(0), 3);
    }

    static void promise5_lastToFirstOfOneKey() {
        PageRescue x = new PageRescue(8, 1);
        Calls.committed(x, 1, 9);
        x.begin();
        x.put(9, 2, true);
        x.put(9, 0, false);
        x.put(9, 3, true);
        x.put(9, 4, true);
        Due.same("abort", x.abort(), 4);
        Due.same("get", x.get(9), 1);
    }

    static void promise5_anEndIsNoChange() {
        PageRescue x = new PageRescue(8, 1);
        Calls.aborted(x, 1, 31);
        Due.same("records", x.count(0), 3);
        Due.same("number of the page", x.page(7, 0), 2);
        Due.same("commits", x.count(1), 0);
    }

    private static void undone(int changes, int left) {
        PageRescue x = States.openWith(changes, left);
        int records = x.count(0);
        Due.same("abort", x.abort(), changes);
        Due.same("records", x.count(0), records + changes + 1);
        Due.same("LEFT", x.count(5), left - changes - 1);
        Due.same("open no more", x.count(6), 0);
        Due.same("no CHANGES", x.count(8), 0);
        for (int i = 1; i <= changes; i++) {
            Due.same("given back", x.get(4 * i), PageRescue.ABSENT);
            Due.same("from the last to the first", x.page(i, 0), records + changes + 1 - i);
        }
    }
}
