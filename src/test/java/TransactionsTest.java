/** Promises 1 to 6: a new object, begin, put, commit, abort, get. */
public final class TransactionsTest {
    private static final long ABSENT = PageRescue.ABSENT;
    private static final long NONE = PageRescue.NONE;

    public static void main(String[] args) {
        newObject();
        sizeIsClamped();
        keepIsClamped();
        beginOnlyOnce();
        putAnswersTheRecord();
        putTakesFourChanges();
        putTestsNumbersBeforeState();
        putKeepsRoomForTheUndo();
        putRefusesBeforeItIsFull();
        commitNumbers();
        commitWhenFull();
        abortGivesBack();
        abortUndoesFromTheLast();
        abortWithoutChanges();
        abortAfterFull();
        getTellsAllInts();
        Due.end();
    }

    private static void newObject() {
        PageRescue x = new PageRescue(5, 2);
        for (int key = 0; key < 32; key++) {
            Due.same("1: get of a new object", x.get(key), ABSENT);
            Due.same("1: look of a new object", x.look(key), NONE);
        }
        int[] counts = {0, 0, 0, 0, 0, 20, 0, -2, 0};
        for (int what = 0; what < counts.length; what++) {
            Due.same("1: count(" + what + ") of a new object", x.count(what), counts[what]);
        }
        for (int page = 0; page < 8; page++) {
            Due.same("1: page number", x.page(page, 0), 0);
            Due.same("1: disk number", x.page(page, 1), 0);
            Due.same("1: readable", x.page(page, 2), 1);
            Due.same("1: images in backups", x.page(page, 3), 0);
        }
    }

    private static void sizeIsClamped() {
        int[][] pairs = {{Integer.MIN_VALUE, 4}, {-1, 4}, {0, 4}, {3, 4}, {4, 4}, {5, 5}, {6, 6}, {7, 7}, {8, 8}, {9, 8},
            {Integer.MAX_VALUE, 8}};
        for (int[] pair : pairs) {
            Due.same("1: LEFT with size " + pair[0], new PageRescue(pair[0], 1).count(5), 4 * pair[1]);
        }
    }

    private static void keepIsClamped() {
        int[][] pairs = {{Integer.MIN_VALUE, 1}, {0, 1}, {1, 1}, {2, 2}, {3, 3}, {4, 3}, {Integer.MAX_VALUE, 3}};
        for (int[] pair : pairs) {
            PageRescue x = new PageRescue(4, pair[0]);
            for (int i = 0; i < 5; i++) {
                Calls.wholeBackup(x, true);
            }
            Due.same("1: backups kept with keep " + pair[0], x.page(0, 3), pair[1]);
        }
    }

    private static void beginOnlyOnce() {
        PageRescue x = new PageRescue(4, 1);
        Due.same("2: begin", x.begin(), PageRescue.DONE);
        Due.same("2: open", x.count(6), 1);
        Due.same("2: no changes", x.count(8), 0);
        Due.same("2: no record", x.count(0), 0);
        x.put(0, 1, true);
        Due.same("2: begin while one is open", x.begin(), PageRescue.REFUSED);
        Due.same("2: its changes stay", x.count(8), 1);
        x.commit();
        Due.same("2: begin after commit", x.begin(), PageRescue.DONE);
        Due.same("2: a new one has no changes", x.count(8), 0);
        x.abort();
        Due.same("2: begin after abort", x.begin(), PageRescue.DONE);
        x.crash(-1);
        Due.same("2: begin after crash", x.begin(), PageRescue.DONE);
        x.lose();
        Due.same("2: begin after lose", x.begin(), PageRescue.DONE);
    }

    private static void putAnswersTheRecord() {
        PageRescue x = new PageRescue(4, 1);
        x.begin();
        Due.same("3: put", x.put(31, -7, true), 1);
        Due.same("3: get sees it", x.get(31), -7);
        Due.same("3: the page's number", x.page(7, 0), 1);
        Due.same("3: put none", x.put(31, 9, false), 2);
        Due.same("3: get sees none", x.get(31), ABSENT);
        Due.same("3: put none where none is", x.put(0, 9, false), 3);
        Due.same("3: get sees none still", x.get(0), ABSENT);
        Due.same("3: it is a CHANGE", x.page(0, 0), 3);
        Due.same("3: changes", x.count(8), 3);
        Due.same("3: keys 3 and 4 lie on two pages", x.put(4, 1, true), 4);
        Due.same("3: page 0", x.page(0, 0), 3);
        Due.same("3: page 1", x.page(1, 0), 4);
    }

    private static void putTakesFourChanges() {
        PageRescue x = new PageRescue(8, 1);
        Due.same("3: put without a transaction", x.put(0, 1, true), PageRescue.REFUSED);
        x.begin();
        for (int i = 1; i <= 4; i++) {
            Due.same("3: put " + i, x.put(0, i, true), i);
        }
        Due.same("3: a fifth put", x.put(0, 5, true), PageRescue.REFUSED);
        Due.same("3: it changed nothing", x.get(0), 4);
        Due.same("3: it made no record", x.count(0), 4);
        x.commit();
        Due.same("3: put after the commit", x.put(0, 1, true), PageRescue.REFUSED);
    }

    private static void putTestsNumbersBeforeState() {
        PageRescue x = new PageRescue(4, 1);
        x.begin();
        int[] wrong = {-1, 32, Integer.MIN_VALUE, Integer.MAX_VALUE};
        for (int key : wrong) {
            Due.same("3: put at key " + key, x.put(key, 1, true), PageRescue.REFUSED);
        }
        x.commit();
        Calls.emptyCommits(x, 15);
        x.begin();
        Due.same("3: the key is tested before LEFT", x.put(32, 1, true), PageRescue.REFUSED);
        Due.same("3: LEFT is tested then", x.put(31, 1, true), PageRescue.FULL);
    }

    /** With LEFT as it is at the begin, how many puts are taken before FULL. */
    private static void putKeepsRoomForTheUndo() {
        int[] taken = {0, 0, 0, 1, 1, 2, 2, 3, 3, 4, 4};
        for (int left = 0; left < taken.length; left++) {
            PageRescue x = new PageRescue(4, 1);
            Calls.emptyCommits(x, 16 - left);
            x.begin();
            for (int i = 0; i < taken[left]; i++) {
                Due.same("3: put with LEFT " + left, x.put(i, i, true), 16 - left + i + 1);
            }
            int end = taken[left] == 4 ? PageRescue.REFUSED : PageRescue.FULL;
            Due.same("3: one put more with LEFT " + left, x.put(9, 9, true), end);
            Due.same("3: it changed nothing", x.get(9), ABSENT);
            Due.same("3: changes with LEFT " + left, x.count(8), taken[left]);
            Due.same("5: abort with LEFT " + left, x.abort(), taken[left]);
            Due.same("5: online", x.count(3) <= 4 ? 1 : 0, 1);
        }
    }

    private static void putRefusesBeforeItIsFull() {
        PageRescue x = new PageRescue(4, 1);
        Calls.emptyCommits(x, 16);
        Due.same("3: no transaction and no LEFT", x.put(0, 1, true), PageRescue.REFUSED);
        PageRescue y = new PageRescue(4, 1);
        Calls.emptyCommits(y, 7);
        y.begin();
        for (int i = 0; i < 4; i++) {
            y.put(i, i, true);
        }
        Due.same("3: LEFT is 5", y.count(5), 5);
        Due.same("3: four CHANGES and too few LEFT", y.put(0, 1, true), PageRescue.REFUSED);
    }

    private static void commitNumbers() {
        PageRescue x = new PageRescue(4, 1);
        Due.same("4: commit without a transaction", x.commit(), PageRescue.REFUSED);
        Due.same("4: first", Calls.committed(x, 5, 0, 1), 1);
        Due.same("4: a COMMIT is a record", x.count(0), 3);
        Due.same("4: it is no CHANGE", x.page(0, 0), 2);
        Due.same("4: open no more", x.count(6), 0);
        Due.same("4: changes of none", x.count(8), 0);
        Due.same("4: it cannot be undone", x.abort(), PageRescue.REFUSED);
        Due.same("4: what it put stays", x.get(1), 5);
        Calls.aborted(x, 6, 0);
        Due.same("4: an aborted one has no number", Calls.committed(x, 7), 2);
        Due.same("4: commits", x.count(1), 2);
        Due.same("4: records", x.count(0), 7);
    }

    private static void commitWhenFull() {
        PageRescue x = new PageRescue(4, 1);
        Calls.emptyCommits(x, 15);
        x.begin();
        Due.same("4: the last record", x.commit(), 16);
        Due.same("4: LEFT", x.count(5), 0);
        Due.same("4: no transaction and no LEFT", x.commit(), PageRescue.REFUSED);
        x.begin();
        Due.same("4: LEFT is 0", x.commit(), PageRescue.FULL);
        Due.same("4: still open", x.count(6), 1);
        Due.same("4: commits", x.count(1), 16);
        Due.same("4: records", x.count(0), 16);
        x.archive();
        Due.same("4: after archive", x.commit(), 17);
    }

    private static void abortGivesBack() {
        PageRescue x = new PageRescue(8, 1);
        Due.same("5: abort without a transaction", x.abort(), PageRescue.REFUSED);
        Calls.committed(x, 5, 0, 4);
        x.begin();
        x.put(0, 6, true);
        x.put(4, 0, false);
        x.put(8, 7, true);
        Due.same("5: abort", x.abort(), 3);
        Due.same("5: a value", x.get(0), 5);
        Due.same("5: a value that was taken", x.get(4), 5);
        Due.same("5: none", x.get(8), ABSENT);
        Due.same("5: three CHANGES and an END", x.count(0), 3 + 3 + 4);
        Due.same("5: the last CHANGE is undone first", x.page(2, 0), 7);
        Due.same("5: then the one before", x.page(1, 0), 8);
        Due.same("5: then the first", x.page(0, 0), 9);
        Due.same("5: open no more", x.count(6), 0);
        Due.same("5: changes of none", x.count(8), 0);
        Due.same("5: commits", x.count(1), 1);
    }

    private static void abortUndoesFromTheLast() {
        PageRescue x = new PageRescue(8, 1);
        Calls.committed(x, 1, 9);
        x.begin();
        x.put(9, 2, true);
        x.put(9, 3, true);
        x.put(9, 0, false);
        x.put(9, 4, true);
        Due.same("5: abort", x.abort(), 4);
        Due.same("5: what it had before all of them", x.get(9), 1);
        Due.same("5: the page's number", x.page(2, 0), 10);
        Due.same("5: records", x.count(0), 11);
    }

    private static void abortWithoutChanges() {
        PageRescue x = new PageRescue(4, 1);
        x.begin();
        Due.same("5: abort", x.abort(), 0);
        Due.same("5: no END", x.count(0), 0);
        Due.same("5: open no more", x.count(6), 0);
        Calls.emptyCommits(x, 16);
        x.begin();
        Due.same("5: abort with LEFT 0", x.abort(), 0);
    }

    private static void abortAfterFull() {
        PageRescue x = new PageRescue(4, 1);
        Calls.emptyCommits(x, 13);
        x.begin();
        x.put(3, 3, true);
        Due.same("5: full for one more", x.put(3, 4, true), PageRescue.FULL);
        Due.same("5: abort", x.abort(), 1);
        Due.same("5: LEFT is used to the last", x.count(5), 0);
        Due.same("5: given back", x.get(3), ABSENT);
    }

    private static void getTellsAllInts() {
        PageRescue x = new PageRescue(8, 1);
        int[] values = {Integer.MIN_VALUE, Integer.MAX_VALUE, 0, -1};
        x.begin();
        for (int key = 0; key < values.length; key++) {
            x.put(key, values[key], true);
            Due.same("6: get", x.get(key), values[key]);
        }
        int[] wrong = {-1, 32, Integer.MIN_VALUE, Integer.MAX_VALUE};
        for (int key : wrong) {
            Due.same("6: get(" + key + ")", x.get(key), NONE);
        }
        Due.same("6: the last key", x.get(31), ABSENT);
    }
}
