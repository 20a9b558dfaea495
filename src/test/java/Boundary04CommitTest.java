/** Promise 4: commit without a transaction, with nothing to commit, and with LEFT 1 and 0. */
public final class Boundary04CommitTest {
    public static void main(String[] args) {
        Cases.runAll(Boundary04CommitTest.class, "promise4");
    }

    static void promise4_noTransactionIsRefused() {
        Unchanged.inEach(States.withoutTransaction(), PageRescue::commit, PageRescue.REFUSED);
    }

    static void promise4_noTransactionWhileABackupRunsIsRefused() {
        Unchanged.after("running", () -> States.running(true, 3), PageRescue::commit, PageRescue.REFUSED);
    }

    static void promise4_noTransactionAndLeft0IsRefusedNotFull() {
        Unchanged.after("full", States::full, PageRescue::commit, PageRescue.REFUSED);
    }

    static void promise4_left0IsFull() {
        Unchanged.after("LEFT 0", States::fullAndOpen, PageRescue::commit, PageRescue.FULL);
        Unchanged.after("LEFT 0", () -> States.openWith(0, 0), PageRescue::commit, PageRescue.FULL);
    }

    static void promise4_left0IsFullForEverySize() {
        for (int size = 4; size <= 8; size++) {
            PageRescue x = new PageRescue(size, 1);
            Calls.emptyCommits(x, 4 * size);
            x.begin();
            Due.same("commit, size " + size, x.commit(), PageRescue.FULL);
            Due.same("still open, size " + size, x.count(6), 1);
        }
    }

    static void promise4_left1IsEnough() {
        PageRescue x = States.openWith(0, 1);
        Due.same("commit", x.commit(), 16);
        Due.same("LEFT", x.count(5), 0);
        Due.same("open no more", x.count(6), 0);
    }

    static void promise4_leastLeftWith1To4ChangesIsEnough() {
        for (int changes = 1; changes <= 4; changes++) {
            PageRescue x = States.openWith(changes, changes + 1);
            int commits = x.count(1);
            Due.same("commit of " + changes, x.commit(), commits + 1);
            Due.same("LEFT after " + changes, x.count(5), changes);
        }
    }

    static void promise4_afterFullAnArchiveMakesRoom() {
        PageRescue x = States.openWith(0, 0);
        Due.same("commit", x.commit(), PageRescue.FULL);
        Due.same("archive", x.archive(), 1);
        Due.same("commit again", x.commit(), 17);
        Due.same("record", x.count(0), 17);
    }

    static void promise4_firstIsNumber1() {
        PageRescue x = new PageRescue(4, 1);
        x.begin();
        Due.same("commit", x.commit(), 1);
    }

    static void promise4_withoutChangesMakesOneRecord() {
        PageRescue x = new PageRescue(4, 1);
        x.begin();
        x.commit();
        Due.same("records", x.count(0), 1);
        Due.same("commits", x.count(1), 1);
        for (int page = 0; page < 8; page++) {
            Due.same("a COMMIT is no CHANGE", x.page(page, 0), 0);
        }
    }

    static void promise4_secondInARowIsRefused() {
        PageRescue x = new PageRescue(4, 1);
        Calls.committed(x, 1, 0);
        Due.same("commit", x.commit(), PageRescue.REFUSED);
        Due.same("commits", x.count(1), 1);
    }
}
