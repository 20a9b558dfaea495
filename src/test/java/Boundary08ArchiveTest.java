/** Promise 8: archive with no segment online, with one that is not full, and with four that are. */
public final class Boundary08ArchiveTest {
    public static void main(String[] args) {
        Cases.runAll(Boundary08ArchiveTest.class, "promise8");
    }

    static void promise8_noRecordYetIsRefused() {
        Unchanged.after("new", States::fresh, PageRescue::archive, PageRescue.REFUSED);
    }

    static void promise8_oneRecordIsRefused() {
        Unchanged.after("one record", () -> records(4, 1, 0), PageRescue::archive, PageRescue.REFUSED);
    }

    static void promise8_oneRecordTooFewIsRefused() {
        for (int size = 4; size <= 8; size++) {
            int s = size;
            Unchanged.after("size " + s, () -> records(s, s - 1, 0), PageRescue::archive, PageRescue.REFUSED);
        }
    }

    static void promise8_lastRecordOfTheSegmentIsEnough() {
        for (int size = 4; size <= 8; size++) {
            PageRescue x = records(size, size, 0);
            Due.same("archive, size " + size, x.archive(), 1);
            Due.same("online no more, size " + size, x.count(3), 0);
            Due.same("archived, size " + size, x.count(4), 1);
        }
    }

    static void promise8_allArchivedIsRefused() {
        for (int size = 4; size <= 8; size++) {
            int s = size;
            Unchanged.after("one of size " + s, () -> records(s, s, 1), PageRescue::archive, PageRescue.REFUSED);
            Unchanged.after("four of size " + s, () -> records(s, 4 * s, 4), PageRescue::archive, PageRescue.REFUSED);
        }
    }

    static void promise8_secondSegmentOneRecordTooFewIsRefused() {
        Unchanged.after("7 records", () -> records(4, 7, 1), PageRescue::archive, PageRescue.REFUSED);
        Due.same("8 records", records(4, 8, 1).archive(), 2);
    }

    static void promise8_fourOnlineAreArchivedFromTheOldestOn() {
        PageRescue x = records(4, 16, 0);
        for (int segment = 1; segment <= 4; segment++) {
            Due.same("archive", x.archive(), segment);
            Due.same("online", x.count(3), 4 - segment);
            Due.same("archived", x.count(4), segment);
            Due.same("LEFT", x.count(5), 4 * segment);
        }
    }

    static void promise8_lastOfFourNotFullIsRefused() {
        Unchanged.after("15 records", () -> records(4, 15, 3), PageRescue::archive, PageRescue.REFUSED);
    }

    static void promise8_segmentWithRecordsOfTheOpenTransactionIsArchived() {
        PageRescue x = new PageRescue(4, 1);
        x.begin();
        for (int i = 0; i < 4; i++) {
            x.put(i, 5, true);
        }
        Due.same("archive", x.archive(), 1);
        Due.same("abort", x.abort(), 4);
        for (int i = 0; i < 4; i++) {
            Due.same("given back", x.get(i), PageRescue.ABSENT);
        }
        Due.same("online", x.count(3), 2);
    }

    static void promise8_purgedOnesAreStillNumbered() {
        PageRescue x = States.purged();
        Due.same("PURGED", x.count(4), 0);
        Calls.emptyCommits(x, 2);
        Due.same("archive", x.archive(), 2);
        Due.same("archived and not PURGED", x.count(4), 1);
    }

    static void promise8_refusedWhileAllRuns() {
        Unchanged.after("busy", States::busy, PageRescue::archive, PageRescue.REFUSED);
    }

    private static PageRescue records(int size, int made, int archived) {
        PageRescue x = new PageRescue(size, 1);
        Calls.emptyCommits(x, made);
        for (int i = 0; i < archived; i++) {
            x.archive();
        }
        Due.same("records of the state", x.count(0), made);
        Due.same("archived of the state", x.count(4), archived);
        return x;
    }
}
