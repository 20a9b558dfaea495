import java.util.ArrayList;
import java.util.Arrays;

/**
 * A table of keys on eight pages with one transaction at a time, a log in segments that are archived,
 * backups, recovery and restoring to past commits.
 *
 * <p>An image of a page is the page as the CHANGES up to the image's number say, and the whole log is
 * held here; so an image is held as its number alone, and what it shows can always be told from the log.
 */
public final class PageRescue {
    public static final int DONE = 0;
    public static final int REFUSED = -1;
    public static final int FULL = -2;
    public static final int GONE = -3;
    public static final long NONE = -1000000000000L;
    public static final long ABSENT = 1000000000000L;

    private static final int KEYS = 32;
    private static final int PAGES = 8;
    private static final int KEYS_ON_A_PAGE = 4;
    private static final int MOST_CHANGES = 4;
    private static final int MOST_ONLINE = 4;
    private static final int SMALLEST_SIZE = 4;
    private static final int GREATEST_SIZE = 8;
    private static final int FEWEST_KEPT = 1;
    private static final int MOST_KEPT = 3;

    /**
     * Six calls (begin, four puts, abort) make nine records and no calls make more for their number, so
     * 512 calls make at most 768; LEFT is never above 32, so up to there it is not cut by this limit.
     */
    private static final int MOST_RECORDS = 800;

    /** A finished backup takes two calls at least, so 512 calls finish no more than these. */
    private static final int MOST_BACKUPS = 256;

    private static final int NOTHING_RUNNING = -2;

    private final Log log;
    private final Transaction transaction = new Transaction();
    private final Disk disk = new Disk();
    private final Backups backups;
    private final long[] scratch = new long[KEYS];
    private boolean scratchOpen = false;

    /** For each page the number of the image that it is REDONE from; one row that every call uses again. */
    private final int[] redoFrom = new int[PAGES];

    public PageRescue(int size, int keep) {
        log = new Log(Math.max(SMALLEST_SIZE, Math.min(GREATEST_SIZE, size)));
        backups = new Backups(Math.max(FEWEST_KEPT, Math.min(MOST_KEPT, keep)));
    }

    public int begin() {
        if (transaction.isOpen()) {
            return REFUSED;
        }
        transaction.open();
        return DONE;
    }

    public int put(int key, int value, boolean present) {
        if (!isKey(key) || !transaction.takesAChange()) {
            return REFUSED;
        }
        // This CHANGE, one for each CHANGE that may have to be undone, and the END.
        int needed = transaction.changes() + 1 + 2;
        if (log.left() < needed) {
            return FULL;
        }
        transaction.remember(key, log.contentOf(key));
        return log.addChange(key, present ? value : ABSENT);
    }

    public int commit() {
        if (!transaction.isOpen()) {
            return REFUSED;
        }
        if (log.left() == 0) {
            return FULL;
        }
        transaction.close();
        return log.addCommit();
    }

    public int abort() {
        if (!transaction.isOpen()) {
            return REFUSED;
        }
        int changes = transaction.changes();
        transaction.undoIn(log);
        return changes;
    }

    public long get(int key) {
        return isKey(key) ? log.contentOf(key) : NONE;
    }

    public int write(int page) {
        if (!isPage(page)) {
            return REFUSED;
        }
        int number = log.numberOfPage(page);
        disk.store(page, number);
        return number;
    }

    public int archive() {
        return log.archiveOldest();
    }

    public int backup(boolean full) {
        return backups.start(full, log.latest());
    }

    public int step(int n) {
        if (n < 1 || n > PAGES) {
            return REFUSED;
        }
        return backups.visit(n, log);
    }

    public int crash(int page) {
        if (page != -1 && !isPage(page)) {
            return REFUSED;
        }
        if (page != -1) {
            disk.tear(page);
        }
        return recover();
    }

    public int lose() {
        for (int page = 0; page < PAGES; page++) {
            disk.tear(page);
        }
        return recover();
    }

    public int restore(int commit) {
        if (commit < 1 || commit > log.commits()) {
            return REFUSED;
        }
        int record = log.recordOfCommit(commit);
        int taken = backups.latestEndedBefore(record);
        if (taken == 0 && log.purged() > 0) {
            return GONE;
        }
        for (int page = 0; page < PAGES; page++) {
            redoFrom[page] = backups.imageInChain(taken, page);
        }
        log.tableUpTo(record, scratch);
        scratchOpen = true;
        return log.changesAbove(redoFrom, record);
    }

    public long look(int key) {
        return isKey(key) && scratchOpen ? scratch[key] : NONE;
    }

    public int page(int page, int what) {
        if (!isPage(page)) {
            return REFUSED;
        }
        switch (what) {
            case 0:
                return log.numberOfPage(page);
            case 1:
                return disk.numberOf(page);
            case 2:
                return disk.isReadable(page) ? 1 : 0;
            case 3:
                return backups.keptImagesOf(page);
            default:
                return REFUSED;
        }
    }

    public int ofBackup(int number, int what) {
        if (number < 1 || number > backups.howMany()) {
            return REFUSED;
        }
        Backup told = backups.numbered(number);
        switch (what) {
            case 0:
                return backups.isKept(number) ? 1 : 0;
            case 1:
                return told.full ? 1 : 0;
            case 2:
                return told.start;
            case 3:
                return told.end;
            case 4:
                return told.images;
            default:
                return REFUSED;
        }
    }

    public int count(int what) {
        switch (what) {
            case 0:
                return log.latest();
            case 1:
                return log.commits();
            case 2:
                return backups.howMany();
            case 3:
                return log.online();
            case 4:
                return log.archived() - log.purged();
            case 5:
                return log.left();
            case 6:
                return transaction.isOpen() ? 1 : 0;
            case 7:
                return backups.stillToVisit();
            case 8:
                return transaction.changes();
            default:
                return REFUSED;
        }
    }

    /** REDOING a page gives what it has already, so only the CHANGES that it takes are counted. */
    private int recover() {
        backups.giveUp();
        for (int page = 0; page < PAGES; page++) {
            redoFrom[page] = Math.max(disk.bestNumberOf(page), backups.bestNumberOf(page));
        }
        int redone = log.changesAbove(redoFrom, log.latest());
        transaction.undoIn(log);
        return redone;
    }

    private static boolean isKey(int key) {
        return key >= 0 && key < KEYS;
    }

    private static boolean isPage(int page) {
        return page >= 0 && page < PAGES;
    }

    /** The records, the table that they say, and the segments that they are cut into. */
    private static final class Log {
        private static final int COMMIT = -1;
        private static final int END = -2;

        private final int size;
        /** Of each record the key that it changes, or COMMIT, or END. */
        private final int[] keys = new int[MOST_RECORDS + 1];
        /** Of each CHANGE the value that its key has from then on, or ABSENT. */
        private final long[] contents = new long[MOST_RECORDS + 1];
        private final long[] table = new long[KEYS];
        private final int[] pageNumbers = new int[PAGES];
        private int latest = 0;
        private int commits = 0;
        /** Segments are archived, and later PURGED, from the oldest on: a number tells which ones are. */
        private int archived = 0;
        private int purged = 0;

        Log(int size) {
            this.size = size;
            Arrays.fill(table, ABSENT);
        }

        int latest() {
            return latest;
        }

        int commits() {
            return commits;
        }

        int archived() {
            return archived;
        }

        int purged() {
            return purged;
        }

        long contentOf(int key) {
            return table[key];
        }

        int numberOfPage(int page) {
            return pageNumbers[page];
        }

        int left() {
            return Math.min((archived + MOST_ONLINE) * size, MOST_RECORDS) - latest;
        }

        int online() {
            int begun = (latest + size - 1) / size;
            return begun - archived;
        }

        int addChange(int key, long content) {
            addRecord(key, content);
            table[key] = content;
            pageNumbers[key / KEYS_ON_A_PAGE] = latest;
            return latest;
        }

        int addCommit() {
            addRecord(COMMIT, ABSENT);
            commits++;
            return commits;
        }

        void addEnd() {
            addRecord(END, ABSENT);
        }

        /** Put and commit look at LEFT before, and put leaves enough for the undo: a place is always free. */
        private void addRecord(int key, long content) {
            latest++;
            keys[latest] = key;
            contents[latest] = content;
        }

        int archiveOldest() {
            if (latest < (archived + 1) * size) {
                return REFUSED;
            }
            archived++;
            return archived;
        }

        void purgeUpTo(int record) {
            purged = Math.max(purged, Math.min(archived, record / size));
        }

        int recordOfCommit(int commit) {
            int seen = 0;
            for (int record = 1; record <= latest; record++) {
                if (keys[record] == COMMIT) {
                    seen++;
                }
                if (seen == commit) {
                    return record;
                }
            }
            return latest;
        }

        int changesAbove(int[] numbers, int upTo) {
            int changes = 0;
            for (int record = 1; record <= upTo; record++) {
                int key = keys[record];
                if (isKey(key) && record > numbers[key / KEYS_ON_A_PAGE]) {
                    changes++;
                }
            }
            return changes;
        }

        void tableUpTo(int upTo, long[] into) {
            Arrays.fill(into, ABSENT);
            for (int record = 1; record <= upTo; record++) {
                int key = keys[record];
                if (isKey(key)) {
                    into[key] = contents[record];
                }
            }
        }
    }

    /** The open transaction with what its CHANGES replaced; it has none while it is not open. */
    private static final class Transaction {
        private final int[] keys = new int[MOST_CHANGES];
        private final long[] replaced = new long[MOST_CHANGES];
        private int changes = 0;
        private boolean isOpen = false;

        boolean isOpen() {
            return isOpen;
        }

        int changes() {
            return changes;
        }

        boolean takesAChange() {
            return isOpen && changes < MOST_CHANGES;
        }

        void open() {
            isOpen = true;
        }

        void close() {
            isOpen = false;
            changes = 0;
        }

        void remember(int key, long content) {
            keys[changes] = key;
            replaced[changes] = content;
            changes++;
        }

        void undoIn(Log log) {
            for (int i = changes - 1; i >= 0; i--) {
                log.addChange(keys[i], replaced[i]);
            }
            if (changes > 0) {
                log.addEnd();
            }
            close();
        }
    }

    /** The images on the disk. */
    private static final class Disk {
        private final int[] numbers = new int[PAGES];
        private final boolean[] torn = new boolean[PAGES];

        void store(int page, int number) {
            numbers[page] = number;
            torn[page] = false;
        }

        void tear(int page) {
            torn[page] = true;
        }

        int numberOf(int page) {
            return numbers[page];
        }

        boolean isReadable(int page) {
            return !torn[page];
        }

        /** Without a readable image a page is REDONE from one with number 0. */
        int bestNumberOf(int page) {
            return torn[page] ? 0 : numbers[page];
        }
    }

    /** One backup, running or finished. */
    private static final class Backup {
        private static final int NO_IMAGE = -1;

        final boolean full;
        final int start;
        private final int[] imageNumbers = new int[PAGES];
        int end = 0;
        int images = 0;
        int visited = 0;

        Backup(boolean full, int start) {
            this.full = full;
            this.start = start;
            Arrays.fill(imageNumbers, NO_IMAGE);
        }

        void takeImage(int page, int number) {
            imageNumbers[page] = number;
            images++;
        }

        boolean hasImageOf(int page) {
            return imageNumbers[page] != NO_IMAGE;
        }

        int imageNumberOf(int page) {
            return imageNumbers[page];
        }
    }

    /**
     * The running backup and the finished ones. The first finished one is full, and what is dropped
     * always ends before a full one; so the kept ones are those from a full one on to the latest.
     */
    private static final class Backups {
        private final int keep;
        private final ArrayList<Backup> finished = new ArrayList<>();
        private Backup running = null;
        private int oldestKept = 1;
        private int fullKept = 0;

        Backups(int keep) {
            this.keep = keep;
        }

        int howMany() {
            return finished.size();
        }

        /** Number is one of 1 .. howMany(). */
        Backup numbered(int number) {
            return finished.get(number - 1);
        }

        boolean isKept(int number) {
            return number >= oldestKept;
        }

        int stillToVisit() {
            return running == null ? NOTHING_RUNNING : PAGES - running.visited;
        }

        int start(boolean full, int latestRecord) {
            if (running != null || (!full && fullKept == 0) || howMany() == MOST_BACKUPS) {
                return REFUSED;
            }
            running = new Backup(full, latestRecord);
            return DONE;
        }

        void giveUp() {
            running = null;
        }

        int visit(int n, Log log) {
            if (running == null) {
                return REFUSED;
            }
            int until = Math.min(PAGES, running.visited + n);
            for (int page = running.visited; page < until; page++) {
                int number = log.numberOfPage(page);
                if (running.full || number > startOfLatest()) {
                    running.takeImage(page, number);
                }
            }
            running.visited = until;
            if (until == PAGES) {
                finish(running, log);
            }
            return PAGES - until;
        }

        private int startOfLatest() {
            return finished.isEmpty() ? 0 : numbered(howMany()).start;
        }

        private void finish(Backup done, Log log) {
            done.end = log.latest();
            finished.add(done);
            running = null;
            if (done.full) {
                fullKept++;
            }
            if (fullKept > keep) {
                dropOldest();
                log.purgeUpTo(numbered(oldestKept).start);
            }
        }

        /** Ends at the full one that has just been finished, at the latest. */
        private void dropOldest() {
            fullKept--;
            oldestKept++;
            while (oldestKept < howMany() && !numbered(oldestKept).full) {
                oldestKept++;
            }
        }

        int keptImagesOf(int page) {
            int images = 0;
            for (int number = oldestKept; number <= howMany(); number++) {
                if (numbered(number).hasImageOf(page)) {
                    images++;
                }
            }
            return images;
        }

        /** The greatest number of a kept image of the page, 0 if there is no image. */
        int bestNumberOf(int page) {
            int best = 0;
            for (int number = oldestKept; number <= howMany(); number++) {
                best = Math.max(best, numbered(number).imageNumberOf(page));
            }
            return best;
        }

        /** The number of the latest kept backup whose END is below the record, 0 if there is none. */
        int latestEndedBefore(int record) {
            for (int number = howMany(); number >= oldestKept; number--) {
                if (numbered(number).end < record) {
                    return number;
                }
            }
            return 0;
        }

        /**
         * The number of the page's latest image in the CHAIN of the kept backup last; the search ends at
         * the CHAIN's full one, which has all pages. If last is 0, which is no backup, 0.
         */
        int imageInChain(int last, int page) {
            for (int number = last; number >= oldestKept; number--) {
                if (numbered(number).hasImageOf(page)) {
                    return numbered(number).imageNumberOf(page);
                }
            }
            return 0;
        }
    }
}
