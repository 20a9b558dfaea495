/** Promises 7, 11, 12 and 15: write, crash, lose, page. */
public final class RecoveryTest {
    public static void main(String[] args) {
        writeStoresThePage();
        writeOfWrongPages();
        crashRedoesFromTheDisk();
        crashTearsOnePage();
        crashTakesTheBestImage();
        crashLooksAtKeptBackupsAlone();
        crashUndoesWhatIsOpen();
        crashCountsBeforeItUndoes();
        crashGivesUpABackup();
        crashOfWrongPages();
        crashWithFullLog();
        loseTearsAllPages();
        losesAfterPurge();
        pageOfWrongNumbers();
        Due.end();
    }

    private static void writeStoresThePage() {
        PageRescue x = new PageRescue(8, 1);
        Due.same("7: a page without CHANGES", x.write(7), 0);
        x.begin();
        x.put(5, 1, true);
        x.put(6, 1, true);
        x.put(0, 1, true);
        Due.same("7: of an open transaction too", x.write(1), 2);
        Due.same("7: on the disk", x.page(1, 1), 2);
        Due.same("7: the others stay", x.page(0, 1), 0);
        x.put(7, 1, true);
        Due.same("15: the page goes on", x.page(1, 0), 4);
        Due.same("15: the disk does not", x.page(1, 1), 2);
        x.crash(1);
        Due.same("15: torn", x.page(1, 2), 0);
        Due.same("15: with its number still", x.page(1, 1), 2);
        Due.same("7: written again", x.write(1), 8);
        Due.same("7: it is readable", x.page(1, 2), 1);
        Due.same("7: it makes no record", x.count(0), 9);
    }

    private static void writeOfWrongPages() {
        PageRescue x = new PageRescue(4, 1);
        int[] wrong = {-1, 8, Integer.MIN_VALUE, Integer.MAX_VALUE};
        for (int page : wrong) {
            Due.same("7: write(" + page + ")", x.write(page), PageRescue.REFUSED);
        }
    }

    private static void crashRedoesFromTheDisk() {
        PageRescue x = new PageRescue(8, 1);
        Due.same("11: no records", x.crash(-1), 0);
        Calls.committed(x, 1, 0, 1, 4, 31);
        Due.same("11: all from number 0", x.crash(-1), 4);
        Due.same("11: the disk stays as it is", x.crash(-1), 4);
        x.write(0);
        Due.same("11: page 0 is on the disk", x.crash(-1), 2);
        Calls.committed(x, 2, 0);
        Due.same("11: but for what came later", x.crash(-1), 3);
        Calls.aborted(x, 3, 31);
        Due.same("11: CHANGES of an UNDO are REDONE too", x.crash(-1), 5);
        Due.same("11: what the keys have", x.get(0) * 100 + x.get(1) * 10 + x.get(31), 211);
    }

    private static void crashTearsOnePage() {
        PageRescue x = new PageRescue(8, 1);
        Calls.committed(x, 1, 0, 1, 4, 5);
        x.write(0);
        x.write(1);
        Due.same("11: none is torn", x.crash(-1), 0);
        Due.same("11: page 0 is torn", x.crash(0), 2);
        Due.same("15: page 0", x.page(0, 2), 0);
        Due.same("15: page 1", x.page(1, 2), 1);
        Due.same("11: it stays torn", x.crash(-1), 2);
        Due.same("11: page 1 too", x.crash(1), 4);
        Due.same("11: page 7 without CHANGES", x.crash(7), 4);
        Due.same("15: page 7", x.page(7, 2), 0);
        x.write(0);
        Due.same("11: page 0 is written again", x.crash(-1), 2);
    }

    private static void crashTakesTheBestImage() {
        PageRescue x = new PageRescue(8, 3);
        Calls.committed(x, 1, 0);
        x.write(0);
        Calls.committed(x, 2, 0);
        Calls.wholeBackup(x, true);
        Calls.committed(x, 3, 0);
        Due.same("11: the backup's is better than the disk's", x.crash(-1), 1);
        Calls.wholeBackup(x, false);
        Due.same("11: the incremental one's is better still", x.crash(0), 0);
        Calls.committed(x, 4, 0);
        x.write(0);
        Due.same("11: the disk's is the best", x.crash(-1), 0);
        Due.same("11: it is torn, the backups' remain", x.crash(0), 1);
        Due.same("11: the key", x.get(0), 4);
    }

    private static void crashLooksAtKeptBackupsAlone() {
        PageRescue x = new PageRescue(8, 1);
        Calls.committed(x, 1, 0, 1);
        x.backup(true);
        x.step(1);
        Calls.committed(x, 2, 0);
        x.step(7);
        Calls.wholeBackup(x, false);
        Due.same("11: the incremental one has all", x.lose(), 0);
        x.backup(true);
        x.step(1);
        Calls.committed(x, 3, 0);
        Due.same("11: images of a running one do not count", x.crash(-1), 1);
        x.backup(true);
        x.step(1);
        Calls.committed(x, 4, 0);
        x.step(7);
        Due.same("16: the older ones are dropped", x.ofBackup(2, 0), 0);
        Due.same("11: the new one's", x.lose(), 1);
    }

    private static void crashUndoesWhatIsOpen() {
        PageRescue x = new PageRescue(8, 1);
        Calls.committed(x, 1, 0);
        x.begin();
        x.put(0, 2, true);
        x.put(0, 3, true);
        x.put(4, 4, true);
        x.write(0);
        x.write(1);
        Due.same("11: all is on the disk", x.crash(-1), 0);
        Due.same("11: undone", x.get(0), 1);
        Due.same("11: undone too", x.get(4), PageRescue.ABSENT);
        Due.same("11: three CHANGES and an END", x.count(0), 9);
        Due.same("11: from the last on", x.page(1, 0), 6);
        Due.same("11: to the first", x.page(0, 0), 8);
        Due.same("11: the disk stays as it is", x.page(0, 1) * 10 + x.page(1, 1), 45);
        Due.same("11: none is open", x.count(6), 0);
        x.begin();
        x.crash(-1);
        Due.same("11: no END without CHANGES", x.count(0), 9);
    }

    private static void crashCountsBeforeItUndoes() {
        PageRescue x = new PageRescue(8, 1);
        x.begin();
        x.put(0, 2, true);
        Due.same("11: the put alone", x.crash(-1), 1);
        Due.same("11: the next counts the UNDO as well", x.crash(-1), 2);
    }

    private static void crashGivesUpABackup() {
        PageRescue x = new PageRescue(4, 1);
        x.backup(true);
        x.step(3);
        x.crash(-1);
        Due.same("11: none is running", x.count(7), -2);
        Due.same("10: no step", x.step(1), PageRescue.REFUSED);
        Due.same("9: another begins at page 0", x.backup(true), PageRescue.DONE);
        Due.same("10: with eight pages", x.step(1), 7);
        x.lose();
        Due.same("12: none is running", x.count(7), -2);
    }

    private static void crashOfWrongPages() {
        PageRescue x = new PageRescue(4, 1);
        x.backup(true);
        x.begin();
        x.put(0, 1, true);
        String before = Calls.allAnswers(x);
        int[] wrong = {-2, 8, Integer.MIN_VALUE, Integer.MAX_VALUE};
        for (int page : wrong) {
            Due.same("11: crash(" + page + ")", x.crash(page), PageRescue.REFUSED);
        }
        Due.same("11: it changed nothing", Calls.allAnswers(x), before);
    }

    private static void crashWithFullLog() {
        PageRescue x = new PageRescue(4, 1);
        Calls.emptyCommits(x, 7);
        x.begin();
        for (int i = 0; i < 4; i++) {
            x.put(i, i, true);
        }
        Due.same("11: LEFT is enough for the UNDO", x.crash(-1), 4);
        Due.same("11: and for no more", x.count(5), 0);
        Due.same("11: four are online", x.count(3), 4);
    }

    private static void loseTearsAllPages() {
        PageRescue x = new PageRescue(8, 1);
        Calls.committed(x, 1, 0, 8, 16, 28);
        for (int page = 0; page < 8; page++) {
            x.write(page);
        }
        x.begin();
        x.put(0, 2, true);
        Due.same("12: all are REDONE", x.lose(), 5);
        Due.same("12: undone", x.get(0), 1);
        int[] numbers = {1, 0, 2, 0, 3, 0, 0, 4};
        for (int page = 0; page < 8; page++) {
            Due.same("12: not readable", x.page(page, 2), 0);
            Due.same("12: with its number", x.page(page, 1), numbers[page]);
        }
        x.write(7);
        Due.same("12: one that is written again is readable", x.page(7, 2), 1);
        Due.same("11: and used", x.crash(-1), 5);
    }

    private static void losesAfterPurge() {
        PageRescue x = new PageRescue(4, 1);
        Calls.committed(x, 1, 0, 1, 2);
        x.archive();
        Calls.wholeBackup(x, true);
        Calls.wholeBackup(x, true);
        Due.same("17: PURGED", x.count(4), 0);
        Due.same("12: the kept one has all", x.lose(), 0);
        Due.same("12: the keys", x.get(2), 1);
    }

    private static void pageOfWrongNumbers() {
        PageRescue x = new PageRescue(4, 1);
        int[] pages = {-1, 8, Integer.MIN_VALUE, Integer.MAX_VALUE};
        for (int page : pages) {
            for (int what = 0; what <= 3; what++) {
                Due.same("15: page(" + page + ", " + what + ")", x.page(page, what), PageRescue.REFUSED);
            }
        }
        int[] whats = {-1, 4, Integer.MIN_VALUE, Integer.MAX_VALUE};
        for (int what : whats) {
            Due.same("15: page(0, " + what + ")", x.page(0, what), PageRescue.REFUSED);
        }
    }
}
