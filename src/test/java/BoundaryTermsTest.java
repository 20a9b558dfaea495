/** The document's "Terms": the boundary cases that hold of several promises together. */
public final class BoundaryTermsTest {
    private static final long ABSENT = PageRescue.ABSENT;

    public static void main(String[] args) {
        Cases.runAll(BoundaryTermsTest.class, "terms");
    }

    static void terms_tableNoKeyHasAValueAtFirst() {
        PageRescue x = new PageRescue(4, 1);
        for (int key = 0; key < 32; key++) {
            Due.same("get(" + key + ")", x.get(key), ABSENT);
        }
    }

    static void terms_tableFirstAndLastKeyOfEachPage() {
        for (int page = 0; page < 8; page++) {
            PageRescue x = new PageRescue(8, 1);
            x.begin();
            x.put(4 * page, 1, true);
            Due.same("first key", x.page(page, 0), 1);
            x.put(4 * page + 3, 1, true);
            Due.same("last key", x.page(page, 0), 2);
            if (page < 7) {
                x.put(4 * page + 4, 1, true);
                Due.same("first key of the next", x.page(page + 1, 0), 3);
                Due.same("not on this one", x.page(page, 0), 2);
            }
        }
    }

    static void terms_logFirstRecordIsNumber1() {
        PageRescue x = new PageRescue(4, 1);
        x.begin();
        Due.same("put", x.put(0, 1, true), 1);
    }

    static void terms_logPageWithoutChangesHasNumber0() {
        PageRescue x = new PageRescue(8, 1);
        Calls.aborted(x, 1, 0);
        Calls.committed(x, 1, 4);
        for (int page = 2; page < 8; page++) {
            Due.same("page " + page, x.page(page, 0), 0);
        }
        Due.same("an END is no CHANGE", x.page(0, 0), 2);
        Due.same("a COMMIT is no CHANGE", x.page(1, 0), 4);
    }

    static void terms_logCommitAndEndSayNothingOfKeys() {
        PageRescue x = new PageRescue(8, 1);
        x.begin();
        x.put(0, 1, true);
        x.put(5, 1, true);
        x.put(31, 1, true);
        String before = Calls.table(x);
        x.commit();
        Due.same("after a COMMIT", Calls.table(x), before);
        Calls.emptyCommits(x, 1);
        Due.same("after another", Calls.table(x), before);
        x.begin();
        x.put(0, 9, true);
        x.put(30, 9, true);
        x.abort();
        Due.same("after an END", Calls.table(x), before);
        Due.same("its records", x.count(0), 10);
        Calls.emptyCommits(x, 1);
        Due.same("CHANGES up to the last commit", x.restore(3), 7);
        Due.same("in the scratch area", Calls.scratch(x), before);
    }

    static void terms_logNoSegmentIsOnlineBeforeTheFirstRecord() {
        PageRescue x = new PageRescue(4, 1);
        x.begin();
        Due.same("online", x.count(3), 0);
        x.put(0, 1, true);
        Due.same("online", x.count(3), 1);
    }

    static void terms_logSegmentEndsWithItsLastRecord() {
        for (int size = 4; size <= 8; size++) {
            PageRescue x = new PageRescue(size, 1);
            Calls.emptyCommits(x, size);
            Due.same("with its last record, size " + size, x.count(3), 1);
            Calls.emptyCommits(x, 1);
            Due.same("the next has begun, size " + size, x.count(3), 2);
        }
    }

    static void terms_logNoCallMakesAFifthOnlineSegment() {
        for (int changes = 0; changes <= 4; changes++) {
            int least = changes == 0 ? 0 : changes + 1;
            PageRescue x = States.openWith(changes, least);
            Due.same("put", x.put(0, 1, true), changes == 4 ? PageRescue.REFUSED : PageRescue.FULL);
            x.lose();
            x.begin();
            Due.same("LEFT", x.count(5), 0);
            Due.same("put", x.put(0, 1, true), PageRescue.FULL);
            Due.same("commit", x.commit(), PageRescue.FULL);
            Due.same("abort", x.abort(), 0);
            Due.same("crash", x.crash(-1), 2 * changes);
            Due.same("online", x.count(3), 4);
        }
    }

    static void terms_logUndoAcrossASegmentsEnd() {
        PageRescue x = States.openWith(3, 4);
        Due.same("online before", x.count(3), 3);
        x.abort();
        Due.same("online after", x.count(3), 4);
        Due.same("LEFT", x.count(5), 0);
    }

    static void terms_leftWithTheLastOnlineSegmentAllButFull() {
        PageRescue x = new PageRescue(4, 1);
        Calls.emptyCommits(x, 7);
        x.archive();
        Due.same("one place there and three segments", x.count(5), 13);
    }

    static void terms_leftAfterAPurgeIsAsBefore() {
        PageRescue x = new PageRescue(4, 1);
        Calls.emptyCommits(x, 5);
        x.archive();
        Calls.wholeBackup(x, true);
        int left = x.count(5);
        Calls.wholeBackup(x, true);
        Due.same("PURGED", x.count(4), 0);
        Due.same("LEFT", x.count(5), left);
    }

    static void terms_undoOfNoChangesMakesNoEnd() {
        PageRescue x = new PageRescue(4, 1);
        x.begin();
        x.abort();
        x.begin();
        x.crash(-1);
        x.begin();
        x.lose();
        Due.same("records", x.count(0), 0);
        Due.same("open", x.count(6), 0);
    }

    static void terms_undoOf1To4ChangesByEachCall() {
        for (int changes = 1; changes <= 4; changes++) {
            PageRescue aborted = States.openWith(changes, 16 - changes);
            aborted.abort();
            PageRescue crashed = States.openWith(changes, 16 - changes);
            crashed.crash(-1);
            PageRescue lost = States.openWith(changes, 16 - changes);
            lost.lose();
            Due.same("abort", aborted.count(0), 2 * changes + 1);
            Due.same("crash", crashed.count(0), 2 * changes + 1);
            Due.same("lose", lost.count(0), 2 * changes + 1);
        }
    }

    static void terms_undoGivesBackWhatWasJustBeforeEachChange() {
        PageRescue x = new PageRescue(8, 1);
        Calls.committed(x, 1, 5);
        x.begin();
        x.put(5, 2, true);
        x.put(6, 3, true);
        x.put(5, 0, false);
        x.put(6, 4, true);
        x.crash(-1);
        Due.same("get(5)", x.get(5), 1);
        Due.same("get(6)", x.get(6), ABSENT);
        Due.same("number of the page", x.page(1, 0), 10);
        Due.same("records", x.count(0), 11);
    }

    static void terms_commitsTableAtTheFirstAndTheLast() {
        PageRescue x = new PageRescue(8, 1);
        for (int i = 1; i <= 10; i++) {
            Calls.committed(x, i, 0);
        }
        Due.same("first", x.restore(1), 1);
        Due.same("look", x.look(0), 1);
        Due.same("last", x.restore(10), 10);
        Due.same("look", x.look(0), 10);
        Due.same("commit 0 cannot be restored", x.restore(0), PageRescue.REFUSED);
    }

    static void terms_imagesOnTheDiskAtFirst() {
        PageRescue x = new PageRescue(4, 1);
        for (int page = 0; page < 8; page++) {
            Due.same("number", x.page(page, 1), 0);
            Due.same("readable", x.page(page, 2), 1);
        }
    }

    static void terms_redoAboveTheImagesNumberAndUpToTheLatest() {
        PageRescue x = new PageRescue(8, 1);
        x.begin();
        x.put(0, 1, true);
        x.put(0, 2, true);
        x.write(0);
        x.put(0, 3, true);
        x.put(0, 4, true);
        Due.same("records 3 and 4", x.crash(-1), 2);
    }

    static void terms_backupsKeepFullOnesDropNothing() {
        for (int keep = 1; keep <= 3; keep++) {
            PageRescue x = new PageRescue(4, keep);
            for (int made = 1; made <= keep; made++) {
                Calls.wholeBackup(x, true);
                Calls.wholeBackup(x, false);
            }
            for (int number = 1; number <= 2 * keep; number++) {
                Due.same("kept " + number + " with keep " + keep, x.ofBackup(number, 0), 1);
            }
        }
    }

    static void terms_backupsOneFullOneMoreDropsUpToTheNextFullOne() {
        for (int keep = 1; keep <= 3; keep++) {
            PageRescue x = new PageRescue(4, keep);
            for (int made = 1; made <= keep; made++) {
                Calls.wholeBackup(x, true);
                Calls.wholeBackup(x, false);
                Calls.wholeBackup(x, false);
            }
            Calls.wholeBackup(x, true);
            for (int number = 1; number <= 3 * keep + 1; number++) {
                Due.same("kept " + number + " with keep " + keep, x.ofBackup(number, 0), number <= 3 ? 0 : 1);
            }
        }
    }

    static void terms_backupsIncrementalOnesNeverDrop() {
        PageRescue x = new PageRescue(4, 1);
        Calls.wholeBackup(x, true);
        for (int number = 2; number <= 6; number++) {
            Calls.wholeBackup(x, false);
        }
        for (int number = 1; number <= 6; number++) {
            Due.same("kept " + number, x.ofBackup(number, 0), 1);
        }
    }

    static void terms_backupsFullOneNotFinishedDropsNothing() {
        PageRescue x = new PageRescue(4, 1);
        Calls.wholeBackup(x, true);
        x.backup(true);
        x.step(7);
        Due.same("running", x.ofBackup(1, 0), 1);
        x.crash(-1);
        Due.same("given up", x.ofBackup(1, 0), 1);
    }

    static void terms_purgedSegmentEndsAtTheStart() {
        Due.same("START 4", archivedLeft(4), 0);
    }

    static void terms_notPurgedSegmentEndsJustAboveTheStart() {
        Due.same("START 3", archivedLeft(3), 1);
    }

    static void terms_notPurgedWithStart0() {
        Due.same("START 0", archivedLeft(0), 1);
    }

    static void terms_purgedForEverySize() {
        for (int size = 4; size <= 8; size++) {
            for (int start = 0; start <= 2 * size; start++) {
                PageRescue x = new PageRescue(size, 1);
                Calls.wholeBackup(x, true);
                Calls.emptyCommits(x, start);
                x.backup(true);
                Calls.emptyCommits(x, 2 * size - start);
                x.archive();
                x.archive();
                x.step(8);
                Due.same("START " + start + ", size " + size, x.count(4), 2 - start / size);
            }
        }
    }

    static void terms_notPurgedWhileOnline() {
        PageRescue x = new PageRescue(4, 1);
        Calls.committed(x, 1, 0, 1, 2);
        Calls.wholeBackup(x, true);
        Calls.wholeBackup(x, true);
        Due.same("online", x.count(3), 1);
        Due.same("never PURGED", x.restore(1), 3);
        x.archive();
        Due.same("archived later", x.count(4), 1);
        Due.same("still not PURGED", x.restore(1), 3);
        Calls.wholeBackup(x, false);
        Due.same("nor with an incremental one", x.count(4), 1);
        Calls.wholeBackup(x, true);
        Due.same("PURGED with the next drop", x.count(4), 0);
        Due.same("GONE", x.restore(1), PageRescue.GONE);
    }

    static void terms_notPurgedWhenNoneIsDropped() {
        for (int keep = 1; keep <= 3; keep++) {
            PageRescue x = new PageRescue(4, keep);
            Calls.committed(x, 1, 0, 1, 2);
            x.archive();
            for (int made = 1; made <= keep; made++) {
                Calls.wholeBackup(x, true);
                Due.same("keep " + keep + ", full ones " + made, x.count(4), 1);
            }
            Due.same("not GONE", x.restore(1), 3);
            Calls.wholeBackup(x, true);
            Due.same("one more, keep " + keep, x.count(4), 0);
            Due.same("GONE", x.restore(1), PageRescue.GONE);
        }
    }

    static void terms_purgedUpToTheStartOfTheOldestStillKept() {
        PageRescue x = new PageRescue(4, 2);
        Calls.wholeBackup(x, true);
        Calls.emptyCommits(x, 4);
        Calls.wholeBackup(x, true);
        Calls.emptyCommits(x, 4);
        x.archive();
        x.archive();
        Calls.wholeBackup(x, true);
        Due.same("up to START 4, not to START 8", x.count(4), 1);
    }

    static void terms_chainOfAnIncrementalOneReachesBackToTheFullOne() {
        PageRescue x = new PageRescue(8, 1);
        Calls.committed(x, 1, 0, 4);
        Calls.wholeBackup(x, true);
        Calls.committed(x, 2, 0);
        Calls.wholeBackup(x, false);
        Calls.wholeBackup(x, false);
        Calls.wholeBackup(x, false);
        Calls.emptyCommits(x, 1);
        Due.same("restore", x.restore(3), 0);
        Due.same("look", x.look(0) * 10 + x.look(4), 21);
    }

    static void terms_numbersAreTestedBeforeTheState() {
        PageRescue x = States.fullAndOpen();
        Due.same("put", x.put(32, 1, true), PageRescue.REFUSED);
        PageRescue y = States.purged();
        Due.same("restore", y.restore(3), PageRescue.REFUSED);
        Due.same("look", new PageRescue(4, 1).look(32), PageRescue.NONE);
    }

    static void terms_fullChangesNothing() {
        Unchanged.after("put", States::fullAndOpen, x -> x.put(0, 9, true), PageRescue.FULL);
        Unchanged.after("commit", States::fullAndOpen, PageRescue::commit, PageRescue.FULL);
    }

    static void terms_goneChangesNothing() {
        Unchanged.after("restore", States::purged, x -> x.restore(1), PageRescue.GONE);
    }

    static void terms_refusedTwiceIsRefusedTheSame() {
        Unchanged.after("busy", States::busy, x -> x.begin() + x.begin() + x.begin(), -3);
        Unchanged.after("new", States::fresh, x -> x.commit() + x.abort() + x.archive() + x.step(1), -4);
    }

    static void terms_the512thCallIsAnsweredAsTheOthers() {
        PageRescue x = new PageRescue(8, 3);
        for (int made = 0; made < 255; made++) {
            Calls.wholeBackup(x, made % 2 == 0);
        }
        Due.same("call 511", x.backup(true), PageRescue.DONE);
        Due.same("call 512", x.step(8), 0);
    }

    static void terms_the512thCallMakesRecords() {
        PageRescue x = new PageRescue(4, 1);
        for (int call = 1; call <= 509; call++) {
            x.get(0);
        }
        Due.same("call 510", x.begin(), PageRescue.DONE);
        Due.same("call 511", x.put(0, 1, true), 1);
        Due.same("call 512", x.abort(), 1);
    }

    /** Of one segment of four records, archived, when a full one with this START is all that is kept. */
    private static int archivedLeft(int start) {
        PageRescue x = new PageRescue(4, 1);
        Calls.wholeBackup(x, true);
        Calls.emptyCommits(x, start);
        x.backup(true);
        Calls.emptyCommits(x, 4 - start);
        x.archive();
        x.step(8);
        Due.same("START of the state", x.ofBackup(2, 2), start);
        return x.count(4);
    }
}
