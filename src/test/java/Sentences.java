import java.util.List;

/**
 * The document sentence by sentence, in its order, each with what tests it: beginnings of the names of boundary cases,
 * or test classes. A row with NOTHING is a sentence that asks for nothing that an answer could show.
 */
final class Sentences {
    static final String NOTHING = "";

    static final List<List<String>> ROWS = List.of(
        List.of("A table of keys on eight pages with one transaction at a time, a log in segments that are archived, full and "
            + "incremental backups that copy pages step by step, recovery after crashes, torn pages and loss of the disk, and "
            + "restoring to past commits.", "ModelTest", "promise1_twoObjectsAreTwo"),
        List.of("An object is used for at most 512 calls after it has been made; what later calls answer is free.",
            "terms_the512thCall", "LongUseTest"),

        List.of("TABLE. Keys 0 .. 31; a key has a value (an int) or none (at first).",
            "terms_tableNoKeyHasAValueAtFirst", "promise3_everyKeyBetweenIsTaken", "promise3_value"),
        List.of("Key k lies on page k / 4 (pages 0 .. 7).", "terms_tableFirstAndLastKeyOfEachPage"),
        List.of("LOG. Records are numbered 1, 2, .. as they are made.",
            "terms_logFirstRecordIsNumber1", "promise17_recordsOfEveryKindCount"),
        List.of("A CHANGE says of one key that it has a value, or none, from then on; a COMMIT and an END say nothing of keys.",
            "terms_logCommitAndEndSayNothingOfKeys", "promise3_key0IsTheFirstTaken", "promise3_everyKeyBetweenIsTaken"),
        List.of("The number of a page is that of the latest CHANGE of a key on it, 0 if there is none.",
            "terms_logPageWithoutChangesHasNumber0", "terms_tableFirstAndLastKeyOfEachPage", "promise5_anEndIsNoChange"),
        List.of("The records are cut into SEGMENTS of SIZE: segment s (1, 2, ..) is the records (s - 1) SIZE + 1 .. s SIZE, as "
            + "far as they were made; it is full when all were.",
            "terms_logSegmentEndsWithItsLastRecord", "promise8_secondSegmentOneRecordTooFewIsRefused"),
        List.of("A segment is online from its first record on, until it is archived.",
            "terms_logNoSegmentIsOnlineBeforeTheFirstRecord", "promise17_onlineWithAllArchivedIs0"),
        List.of("At most 4 segments are online.", "terms_logNoCallMakesAFifthOnlineSegment", "promise17_online0To4"),
        List.of("LEFT is the number of records that could still be made without a fifth online segment, were none archived.",
            "terms_left", "terms_logUndoAcrossASegmentsEnd", "promise17_left0AndItsGreatest"),
        List.of("TRANSACTION. There is an open one or none (at first).", "promise1_nothingIsThereYet", "promise17_openOrNot"),
        List.of("It has CHANGES that were made by put, at most 4.", "promise17_changes0To4", "promise3_fifthChange"),
        List.of("To UNDO it: for each of its CHANGES by put, from the last to the first, a CHANGE is made that gives the key back "
            + "what it had just before that one; then, if it had CHANGES, an END is made; the transaction is open no more.",
            "terms_undo", "promise5_lastToFirstOfOneKey", "promise5_fourChangesMakeFiveRecords"),
        List.of("COMMITS are numbered 1, 2, .. .", "promise4_firstIsNumber1", "promise13_endsAreNotCountedAsCommits"),
        // AT commit 0 cannot be seen: restore takes commits from 1 on.
        List.of("The table AT commit c is what the CHANGES before the record of commit c say, 'AT commit 0': no key has a value.",
            "terms_commitsTableAtTheFirstAndTheLast", "promise13_changeJust", "promise13_everyKeyIsBuilt"),
        List.of("IMAGES. An image of a page has a number n, and is the page as the CHANGES up to record n say.",
            "promise11_tableIsAsBefore", "promise12_purgedSegmentsAreNotNeeded", "promise13_everyKeyIsBuilt"),
        List.of("The disk has for each page an image (at first with number 0) that is readable or not (at first readable).",
            "terms_imagesOnTheDiskAtFirst", "promise15_newObject"),
        List.of("To REDO a page from an image up to record m is to do all CHANGES of keys on the page with numbers above the "
            + "image's and not above m; each of them counts as one.",
            "terms_redoAboveTheImagesNumberAndUpToTheLatest", "promise11_change", "promise13_changeJust"),
        List.of("BACKUPS. A backup is full or incremental; it has a START, an END (record numbers) and images of some pages.",
            "promise16_number1IsTheFirstTold", "promise16_lastNumberIsTold"),
        List.of("One can be running; the finished ones are numbered 1, 2, .. in their order.",
            "promise16_numberOf", "promise16_droppedOneIsStillTold", "promise17_runningBackupIsNotFinished"),
        List.of("Finished ones are kept or dropped.", "promise16_droppedOneIsStillTold", "promise17_droppedBackupsAreFinishedOnes"),
        List.of("When a full one is finished and more than KEEP full ones are kept, the oldest full one and all finished ones "
            + "before the next kept full one are dropped; then (in this case alone) all archived segments whose records all have "
            + "numbers not above the START of the oldest full one that is still kept are PURGED.",
            "terms_backups", "terms_purged", "terms_notPurged"),
        List.of("A backup's CHAIN is itself and all finished ones before it from the latest full one at or before it on.",
            "terms_chainOfAnIncrementalOneReachesBackToTheFullOne", "promise13_chainEndsAtTheLatestFullOne",
            "promise13_incrementalWithoutImagesUsesItsChain"),
        List.of("Every call tests its numbers first, then what its own comment says, in that order.",
            "terms_numbersAreTestedBeforeTheState", "promise3_outOfRangeIsRefusedBeforeFull",
            "promise13_outOfRangeIsRefusedBeforeGone"),
        List.of("Numbers out of range and all else that is said to be refused answer REFUSED (NONE where the answer is a long) "
            + "and change nothing.",
            "terms_refusedTwiceIsRefusedTheSame", "promise3_keyMinus1IsRefused", "promise6_key32IsNone", "promise14_key32IsNone"),
        List.of("FULL and GONE change nothing.", "terms_fullChangesNothing", "terms_goneChangesNothing"),
        List.of("The constants: `NONE = -1000000000000L`: No value can be told.", "FaceTest", "promise14_notOpenYetIsNone"),
        List.of("`ABSENT = 1000000000000L`: The key has no value.", "FaceTest", "promise6_noValueYetIsAbsent"),

        List.of("`PageRescue(int size, int keep)`: size: SIZE, clamped to 4 .. 8.", "promise1_size"),
        List.of("keep: KEEP, clamped to 1 .. 3.", "promise1_keep", "promise1_sizeAndKeepAreNotMixedUp"),

        List.of("`int begin()`: A transaction is open: REFUSED.", "promise2_open"),
        List.of("One is open, without CHANGES.",
            "promise2_noneOpenIsDone", "promise2_changesOfTheOneBeforeAreNotItsOwn", "promise2_runningBackupGoesOn"),
        List.of("DONE.", "promise2_noneOpenIsDone", "promise2_left0IsDone"),

        List.of("`int put(int key, int value, boolean present)`: Key 0 .. 31.", "promise3_key", "promise3_everyKeyBetweenIsTaken"),
        List.of("No transaction is open, or it has 4 CHANGES: REFUSED.", "promise3_noTransaction", "promise3_fifthChange"),
        List.of("With c as its CHANGES, this one counted, LEFT is less than c + 2: FULL.",
            "promise3_firstChangeWith", "promise3_secondChangeWith", "promise3_thirdChangeWith", "promise3_fourthChangeWith",
            "promise3_leftIsTestedForEverySize", "promise3_afterFullAnArchiveMakesRoom", "promise3_archivedSegments"),
        List.of("A CHANGE is made: the key has the value if present, else none.",
            "promise3_value", "promise3_notPresent", "promise3_sameValueAgainMakesAChange"),
        List.of("Answers its number.", "promise3_fourthChangeIsTaken", "promise3_archivedSegments"),

        List.of("`int commit()`: No transaction is open: REFUSED.", "promise4_noTransaction", "promise4_secondInARowIsRefused"),
        List.of("LEFT is 0: FULL.", "promise4_left", "promise4_leastLeft", "promise4_afterFullAnArchiveMakesRoom"),
        List.of("A COMMIT is made; the transaction is open no more.", "promise4_withoutChangesMakesOneRecord", "promise4_left1IsEnough"),
        List.of("Answers the number of the commit.", "promise4_firstIsNumber1", "promise4_leastLeft"),

        List.of("`int abort()`: No transaction is open: REFUSED.", "promise5_noTransaction", "promise5_secondInARowIsRefused"),
        List.of("It is UNDONE (there are always enough records LEFT).",
            "promise5_withoutChanges", "promise5_leastLeftIsEnoughAndUsedUp", "promise5_afterFullAllIsGivenBack"),
        List.of("Answers how many CHANGES it had.",
            "promise5_withoutChangesMakesNoRecord", "promise5_oneChangeMakesTwoRecords", "promise5_fourChangesMakeFiveRecords"),

        List.of("`long get(int key)`: What key 0 .. 31 has now, CHANGES of the open transaction counted: its value, or ABSENT.",
            "promise6_"),

        List.of("`int write(int page)`: Page 0 .. 7: the disk gets a readable image of it with the page's number.", "promise7_"),
        List.of("Answers that number.", "promise7_page", "promise7_noChangeYetAnswers0", "promise7_secondTimeAnswersTheSame"),

        List.of("`int archive()`: The oldest online segment is not full, or none is online: REFUSED.",
            "promise8_noRecordYetIsRefused", "promise8_oneRecord", "promise8_allArchivedIsRefused",
            "promise8_lastOfFourNotFullIsRefused", "promise8_refusedWhileAllRuns"),
        List.of("It is archived (and online no more).",
            "promise8_lastRecordOfTheSegmentIsEnough", "promise8_segmentWithRecordsOfTheOpenTransactionIsArchived"),
        List.of("Answers its number.", "promise8_fourOnlineAreArchivedFromTheOldestOn", "promise8_purgedOnesAreStillNumbered"),

        List.of("`int backup(boolean full)`: A backup is running, or full is false and no full one is kept: REFUSED.",
            "promise9_fullWhile", "promise9_incremental"),
        List.of("A backup begins: its START is the latest record's number (0 if there is none), and it is to visit the pages 0 .. 7.",
            "promise9_start", "promise9_fullWithNoRecordYetStartsAt0", "promise9_beginTakesNoImage"),
        List.of("DONE.", "promise9_withLeft0IsDone", "promise9_incrementalWithOneFullOneKeptIsDone"),

        List.of("`int step(int n)`: n 1 .. 8.", "promise10_n0", "promise10_n1", "promise10_n8", "promise10_n9", "promise10_nMinus",
            "promise10_nLeast", "promise10_nGreatest", "promise10_everyNBetweenIsTaken"),
        List.of("No backup is running: REFUSED.",
            "promise10_noBackupYetIsRefused", "promise10_finishedOneIsRefused", "promise10_givenUpOneIsRefused"),
        List.of("It visits the next n pages, or as many as are left: if it is full, or the page's number is above the START of "
            + "the latest finished backup, it gets an image of the page with the page's number.",
            "promise10_moreThanAreLeft", "promise10_fullTakes", "promise10_incremental", "promise10_number", "promise10_startOf",
            "promise10_pageChanged"),
        List.of("When none are left it is finished, and its END is the latest record's number.",
            "promise10_exactlyAsManyAsAreLeftFinishes", "promise10_oneFewer", "promise10_end"),
        List.of("Answers how many pages are left.", "promise10_everyNBetweenIsTaken", "promise10_oneFewer"),

        List.of("`int crash(int page)`: A crash in which the write of a page 0 .. 7 may be torn: that page's image on the disk is "
            + "not readable any more (page -1: none is torn).", "promise11_page", "promise11_tornPageStaysTorn"),
        List.of("A running backup is given up.", "promise11_backupThatLacksOneVisitIsGivenUp"),
        // Which of several images with one number is best cannot be seen: they are the same page.
        List.of("Then RECOVERY: each page is REDONE from its best image up to the latest record: that with the greatest number "
            + "among the readable one on the disk and those of the kept finished backups, the one on the disk if it is one of "
            + "several; if there is none at all, an image with number 0.",
            "promise11_noImageAtAllIsRedoneFromNumber0", "promise11_backupsImage", "promise11_disksImage", "promise11_olderKeptBackup",
            "promise11_equalNumbersOnDiskAndInABackup", "promise11_tornBestImageLeavesTheBackups"),
        List.of("Then an open transaction is UNDONE.", "promise11_open", "promise11_undo", "promise11_noTransactionMakesNoRecord"),
        List.of("The images on the disk stay as they are.", "promise11_imagesOnTheDiskStay"),
        List.of("Answers how many CHANGES were REDONE, all pages together.",
            "promise11_changesOf", "promise11_noRecordYetAnswers0"),

        List.of("`int lose()`: As crash, with all images on the disk not readable any more.", "promise12_"),

        List.of("`int restore(int commit)`: Builds the table AT commit 1 .. 'how many there are' (else REFUSED) in the scratch "
            + "area, which is not open before the first time.", "promise13_commit", "promise13_lastCommitIsTaken",
            "promise13_oneAboveTheLastIsRefused", "promise13_everyKeyIsBuilt", "promise13_refusedDoesNotOpenTheScratchArea",
            "promise13_changesNothingButTheScratchArea"),
        List.of("With m as the number of that commit's record, the latest kept finished backup whose END is below m is taken, and "
            + "each page REDONE up to m from the image of it in the latest backup of the CHAIN that has one.",
            "promise13_end", "promise13_start", "promise13_runningOneIsNotTaken", "promise13_latestOfTwo", "promise13_eachPage"),
        List.of("If there is no such backup: if a segment was ever PURGED, GONE; else each page is REDONE up to m from an image "
            + "with number 0.", "promise13_noBackupBelow", "promise13_droppedBackup", "promise13_gone"),
        List.of("Answers how many CHANGES were REDONE.", "promise13_everyKeyIsBuilt", "promise13_eachPage"),

        List.of("`long look(int key)`: What key 0 .. 31 has in the scratch area: its value or ABSENT; NONE if it is not open.",
            "promise14_key", "promise14_no", "promise14_value", "promise14_leastAndGreatestIntAreTold"),
        List.of("Nothing but restore changes it.", "promise14_nothingButRestoreChangesIt", "promise14_refusedAndGoneLeaveIt",
            "promise14_lookChangesNothing", "promise11_scratchAreaStays", "EffectsTest"),

        List.of("`int page(int page, int what)`: What of a page 0 .. 7: 0 its number; 1 the number of its image on the disk; 2: 1 "
            + "if that is readable, else 0; 3: in how many kept finished backups it has an image.",
            "promise15_page", "promise15_images", "promise15_incremental", "promise15_numberOnTheDiskStaysWhenTorn",
            "promise15_askingChangesNothing"),
        List.of("Another what: REFUSED.", "promise15_what", "promise15_bothOutOfRangeIsRefused"),

        List.of("`int ofBackup(int number, int what)`: What of a finished backup number: 0: 1 if it is kept, 0 if dropped; 1: 1 if "
            + "it is full, else 0; 2 its START; 3 its END; 4 how many images it has.",
            "promise16_number1IsTheFirstTold", "promise16_lastNumberIsTold", "promise16_droppedOneIsStillTold",
            "promise16_noRecordNoImage", "promise16_incrementalWithAllPages", "promise16_askingChangesNothing"),
        List.of("No such number or another what: REFUSED.",
            "promise16_number", "promise16_oneAboveTheLastIsRefused", "promise16_what", "promise16_bothOutOfRangeIsRefused"),

        List.of("`int count(int what)`: What: 0 the latest record's number, 0 if none; 1 commits; 2 finished backups; 3 online "
            + "segments; 4 archived segments that are not PURGED; 5 LEFT; 6: 1 if a transaction is open, else 0; 7 pages that the "
            + "running backup is still to visit, -2 if none is running; 8 CHANGES of the open transaction by put, 0 if none is "
            + "open.",
            "promise17_records", "promise17_aborted", "promise17_running", "promise17_dropped", "promise17_online",
            "promise17_archived", "promise17_left", "promise17_open", "promise17_pagesToVisit", "promise17_changes",
            "promise17_asking"),
        List.of("Else REFUSED.", "promise17_what"),

        List.of("How the state is held inside the object is free, as are the speed of each call, the text of toString and the "
            + "behaviour of equals and hashCode.", NOTHING),
        List.of("Use of one object from several threads at once is not promised to be safe.", NOTHING),
        List.of("Nothing is promised beyond the answers and state changes described above, and nothing about an object after its "
            + "512th call.", NOTHING));

    private Sentences() {
    }
}
