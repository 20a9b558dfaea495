/** Promises 8 and 17: archive, and what count tells of records and segments. */
public final class LogTest {
    public static void main(String[] args) {
        segmentsComeOnline();
        archiveTakesFullOnesAlone();
        archiveFreesRecords();
        leftOfEachSize();
        countTellsTheRest();
        countOfAnotherWhat();
        Due.end();
    }

    private static void segmentsComeOnline() {
        PageRescue x = new PageRescue(5, 1);
        int[] online = {1, 1, 1, 1, 1, 2, 2, 2, 2, 2, 3, 3, 3, 3, 3, 4, 4, 4, 4, 4};
        for (int i = 0; i < online.length; i++) {
            Calls.emptyCommits(x, 1);
            Due.same("17: online with records " + (i + 1), x.count(3), online[i]);
            Due.same("17: LEFT with records " + (i + 1), x.count(5), 20 - i - 1);
        }
    }

    private static void archiveTakesFullOnesAlone() {
        PageRescue x = new PageRescue(4, 1);
        Due.same("8: none is online", x.archive(), PageRescue.REFUSED);
        Calls.emptyCommits(x, 3);
        Due.same("8: not full", x.archive(), PageRescue.REFUSED);
        Due.same("8: still online", x.count(3), 1);
        Calls.emptyCommits(x, 1);
        Due.same("8: full", x.archive(), 1);
        Due.same("8: online no more", x.count(3), 0);
        Due.same("8: archived", x.count(4), 1);
        Due.same("8: none is online again", x.archive(), PageRescue.REFUSED);
        Calls.emptyCommits(x, 9);
        Due.same("8: the oldest first", x.archive(), 2);
        Due.same("8: then the next", x.archive(), 3);
        Due.same("8: the last is not full", x.archive(), PageRescue.REFUSED);
        Due.same("8: one online", x.count(3), 1);
        Due.same("8: three archived", x.count(4), 3);
    }

    private static void archiveFreesRecords() {
        PageRescue x = new PageRescue(4, 1);
        Calls.emptyCommits(x, 15);
        x.archive();
        Due.same("8: LEFT", x.count(5), 5);
        x.archive();
        x.archive();
        Due.same("8: LEFT", x.count(5), 13);
        Calls.emptyCommits(x, 1);
        x.archive();
        Due.same("8: LEFT with none online", x.count(5), 16);
        Due.same("8: none online", x.count(3), 0);
        x.begin();
        x.put(0, 7, true);
        x.archive();
        Due.same("8: with an open transaction", x.count(5), 15);
        Due.same("8: an archived segment can still be undone", x.abort(), 1);
        Due.same("8: what was archived still says", x.get(0), PageRescue.ABSENT);
    }

    private static void leftOfEachSize() {
        for (int size = 4; size <= 8; size++) {
            PageRescue x = new PageRescue(size, 1);
            for (int made = 0; made < 4 * size; made++) {
                Due.same("17: LEFT of size " + size, x.count(5), 4 * size - made);
                Calls.emptyCommits(x, 1);
            }
            for (int segment = 1; segment <= 4; segment++) {
                Due.same("8: archive of size " + size, x.archive(), segment);
                Due.same("17: LEFT of size " + size, x.count(5), segment * size);
            }
            Due.same("8: no fifth of size " + size, x.archive(), PageRescue.REFUSED);
        }
    }

    private static void countTellsTheRest() {
        PageRescue x = new PageRescue(8, 2);
        Calls.committed(x, 1, 0, 8);
        Calls.aborted(x, 2, 0);
        Due.same("17: records", x.count(0), 6);
        Due.same("17: commits", x.count(1), 1);
        Due.same("17: backups", x.count(2), 0);
        x.backup(true);
        Due.same("17: to visit", x.count(7), 8);
        x.step(3);
        Due.same("17: to visit", x.count(7), 5);
        Due.same("17: a running one is not finished", x.count(2), 0);
        x.step(5);
        Due.same("17: none is running", x.count(7), -2);
        Due.same("17: backups", x.count(2), 1);
        x.begin();
        x.put(1, 1, true);
        x.put(1, 1, true);
        Due.same("17: open", x.count(6), 1);
        Due.same("17: its CHANGES", x.count(8), 2);
        x.lose();
        Due.same("17: none is open", x.count(6), 0);
        Due.same("17: no CHANGES", x.count(8), 0);
        Due.same("17: undone", x.count(0), 11);
    }

    private static void countOfAnotherWhat() {
        PageRescue x = new PageRescue(4, 1);
        int[] wrong = {-1, 9, Integer.MIN_VALUE, Integer.MAX_VALUE};
        for (int what : wrong) {
            Due.same("17: count(" + what + ")", x.count(what), PageRescue.REFUSED);
        }
    }
}
