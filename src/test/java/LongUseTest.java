import java.util.Random;

/** The most that 512 calls can make, and that no later call throws, whatever it is given. */
public final class LongUseTest {
    public static void main(String[] args) {
        mostRecords();
        mostCommits();
        laterBackupsAnswer();
        laterRecordsAnswer();
        laterCallsAnswer();
        Due.end();
    }

    /** Transactions of four CHANGES that are undone, and archives as they can be: no calls make more. */
    private static void mostRecords() {
        PageRescue x = new PageRescue(8, 1);
        int records = 0;
        int archived = 0;
        int calls = 0;
        while (calls + 8 <= 511) {
            x.begin();
            for (int i = 1; i <= 4; i++) {
                Due.same("put", x.put(0, i, true), records + i);
            }
            Due.same("abort", x.abort(), 4);
            records += 9;
            calls += 6;
            while (records >= 8 * (archived + 1)) {
                archived++;
                calls++;
                Due.same("archive", x.archive(), archived);
            }
        }
        Due.same("LEFT after the most records", x.count(5), 8L * (archived + 4) - records);
        Due.that("many records were made", records > 600);
    }

    private static void mostCommits() {
        PageRescue x = new PageRescue(8, 1);
        int commits = 0;
        for (int calls = 0; calls + 3 <= 512; calls += 2) {
            Due.same("begin", x.begin(), PageRescue.DONE);
            commits++;
            Due.same("commit", x.commit(), commits);
            if (commits % 8 == 0) {
                calls++;
                Due.same("archive", x.archive(), commits / 8);
            }
        }
        Due.that("many commits were made", commits > 230);
    }

    private static void laterBackupsAnswer() {
        PageRescue x = new PageRescue(4, 3);
        for (int i = 0; i < 2000; i++) {
            Calls.wholeBackup(x, i % 3 == 0);
        }
        Due.that("those of the first 512 calls are still told of", x.ofBackup(256, 2) == 0);
        Due.same("backups, as README.md tells", x.count(2), 256);
        Due.same("backups beyond them", x.backup(true), PageRescue.REFUSED);
    }

    private static void laterRecordsAnswer() {
        PageRescue x = new PageRescue(8, 1);
        for (int i = 0; i < 2000; i++) {
            Calls.emptyCommits(x, 1);
            x.archive();
        }
        Due.same("records, as README.md tells", x.count(0), 800);
        Due.same("records beyond them", x.commit(), PageRescue.FULL);
        Due.same("put", x.put(0, 1, true), PageRescue.FULL);
        Due.same("the last commit is still told of", x.restore(800), 0);
    }

    private static void laterCallsAnswer() {
        int[] numbers = {Integer.MIN_VALUE, -2, -1, 0, 1, 2, 3, 4, 5, 6, 7, 8, 9, 31, 32, 255, 256, 257, 800, 801,
            Integer.MAX_VALUE};
        for (int seed = 0; seed < 40; seed++) {
            Random random = new Random(seed);
            PageRescue x = new PageRescue(numbers[random.nextInt(numbers.length)], numbers[random.nextInt(numbers.length)]);
            for (int i = 0; i < 20000; i++) {
                act(x, random.nextInt(20), numbers[random.nextInt(numbers.length)], numbers[random.nextInt(numbers.length)]);
            }
            Due.that("the object is still asked", x.count(9) == PageRescue.REFUSED);
        }
    }

    private static void act(PageRescue x, int kind, int first, int second) {
        switch (kind) {
            case 0 -> x.begin();
            case 1 -> x.commit();
            case 2 -> x.abort();
            case 3 -> x.get(first);
            case 4 -> x.write(first);
            case 5, 6 -> x.archive();
            case 7 -> x.backup(first > 3);
            case 8, 9 -> x.step(first);
            case 10 -> x.crash(first);
            case 11 -> x.lose();
            case 12 -> x.restore(first);
            case 13 -> x.look(first);
            case 14 -> x.page(first, second);
            case 15 -> x.ofBackup(first, second);
            case 16 -> x.count(first);
            default -> x.put(first, second, second != 0);
        }
    }
}
