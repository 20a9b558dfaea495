/** Promise 3: the keys, the values, the four CHANGES and LEFT of put. */
public final class Boundary03PutTest {
    private static final int REFUSED = PageRescue.REFUSED;

    public static void main(String[] args) {
        Cases.runAll(Boundary03PutTest.class, "promise3");
    }

    static void promise3_key0IsTheFirstTaken() {
        keyIsTaken(0, 0);
    }

    static void promise3_key31IsTheLastTaken() {
        keyIsTaken(31, 7);
    }

    static void promise3_keyMinus1IsRefused() {
        keyIsRefused(-1);
    }

    static void promise3_key32IsRefused() {
        keyIsRefused(32);
    }

    static void promise3_keyLeastIntIsRefused() {
        keyIsRefused(Integer.MIN_VALUE);
    }

    static void promise3_keyGreatestIntIsRefused() {
        keyIsRefused(Integer.MAX_VALUE);
    }

    static void promise3_everyKeyBetweenIsTaken() {
        for (int key = 0; key < 32; key++) {
            keyIsTaken(key, key / 4);
        }
    }

    static void promise3_valueLeastIntIsTaken() {
        valueIsTaken(Integer.MIN_VALUE);
    }

    static void promise3_valueGreatestIntIsTaken() {
        valueIsTaken(Integer.MAX_VALUE);
    }

    static void promise3_valuesThatLookLikeAnswersAreTaken() {
        for (int value = -4; value <= 1; value++) {
            valueIsTaken(value);
        }
    }

    static void promise3_notPresentGivesNoneWhateverTheValue() {
        int[] values = {Integer.MIN_VALUE, -1, 0, 1, Integer.MAX_VALUE};
        for (int value : values) {
            PageRescue x = new PageRescue(8, 1);
            Calls.committed(x, 5, 9);
            x.begin();
            Due.same("put", x.put(9, value, false), 3);
            Due.same("get", x.get(9), PageRescue.ABSENT);
        }
    }

    static void promise3_notPresentWhereNoneIsMakesAChange() {
        PageRescue x = new PageRescue(4, 1);
        x.begin();
        Due.same("put", x.put(9, 0, false), 1);
        Due.same("records", x.count(0), 1);
        Due.same("CHANGES", x.count(8), 1);
        Due.same("number of the page", x.page(2, 0), 1);
    }

    static void promise3_sameValueAgainMakesAChange() {
        PageRescue x = new PageRescue(4, 1);
        x.begin();
        Due.same("put", x.put(9, 4, true), 1);
        Due.same("put", x.put(9, 4, true), 2);
        Due.same("CHANGES", x.count(8), 2);
        Due.same("number of the page", x.page(2, 0), 2);
    }

    static void promise3_noTransactionIsRefused() {
        Unchanged.inEach(States.withoutTransaction(), x -> x.put(0, 9, true), REFUSED);
        Unchanged.inEach(States.withoutTransaction(), x -> x.put(31, 9, false), REFUSED);
    }

    static void promise3_noTransactionAndLeft0IsRefusedNotFull() {
        Unchanged.after("full", States::full, x -> x.put(0, 9, true), REFUSED);
    }

    static void promise3_fourthChangeIsTaken() {
        PageRescue x = States.openWith(3, 13);
        Due.same("put", x.put(0, 9, true), 4);
        Due.same("CHANGES", x.count(8), 4);
    }

    static void promise3_fifthChangeIsRefused() {
        Unchanged.after("4 CHANGES", () -> States.openWith(4, 12), x -> x.put(0, 9, true), REFUSED);
        Unchanged.after("4 CHANGES", () -> States.openWith(4, 12), x -> x.put(4, 9, false), REFUSED);
    }

    static void promise3_fifthChangeOfOneKeyIsRefused() {
        PageRescue x = new PageRescue(8, 1);
        x.begin();
        for (int i = 1; i <= 4; i++) {
            Due.same("put", x.put(17, i, true), i);
        }
        Due.same("a fifth", x.put(17, 5, true), REFUSED);
        Due.same("get", x.get(17), 4);
    }

    static void promise3_fifthChangeWithTooFewLeftIsRefusedNotFull() {
        Unchanged.after("4 CHANGES, LEFT 5", () -> States.openWith(4, 5), x -> x.put(0, 9, true), REFUSED);
        Unchanged.after("4 CHANGES, LEFT 6", () -> States.openWith(4, 6), x -> x.put(0, 9, true), REFUSED);
    }

    static void promise3_firstChangeWithLeft3IsTaken() {
        leftIsEnough(0, 3);
    }

    static void promise3_firstChangeWithLeft2IsFull() {
        leftIsTooFew(0, 2);
    }

    static void promise3_firstChangeWithLeft1IsFull() {
        leftIsTooFew(0, 1);
    }

    static void promise3_firstChangeWithLeft0IsFull() {
        leftIsTooFew(0, 0);
    }

    static void promise3_secondChangeWithLeft4IsTaken() {
        leftIsEnough(1, 4);
    }

    static void promise3_secondChangeWithLeft3IsFull() {
        leftIsTooFew(1, 3);
    }

    static void promise3_secondChangeWithLeft2IsFull() {
        leftIsTooFew(1, 2);
    }

    static void promise3_thirdChangeWithLeft5IsTaken() {
        leftIsEnough(2, 5);
    }

    static void promise3_thirdChangeWithLeft4IsFull() {
        leftIsTooFew(2, 4);
    }

    static void promise3_fourthChangeWithLeft6IsTaken() {
        leftIsEnough(3, 6);
    }

    static void promise3_fourthChangeWithLeft5IsFull() {
        leftIsTooFew(3, 5);
    }

    static void promise3_leftIsTestedForEverySize() {
        for (int size = 4; size <= 8; size++) {
            PageRescue x = new PageRescue(size, 1);
            Calls.emptyCommits(x, 4 * size - 3);
            x.begin();
            Due.same("LEFT just enough, size " + size, x.put(0, 1, true), 4 * size - 2);
            Due.same("one too few, size " + size, x.put(0, 1, true), PageRescue.FULL);
        }
    }

    static void promise3_outOfRangeIsRefusedBeforeFull() {
        Unchanged.after("full and open", States::fullAndOpen, x -> x.put(32, 9, true), REFUSED);
        Unchanged.after("full and open", States::fullAndOpen, x -> x.put(-1, 9, true), REFUSED);
        Unchanged.after("full and open", States::fullAndOpen, x -> x.put(31, 9, true), PageRescue.FULL);
    }

    static void promise3_afterFullAnArchiveMakesRoom() {
        PageRescue x = States.openWith(1, 3);
        Due.same("put", x.put(0, 9, true), PageRescue.FULL);
        Due.same("archive", x.archive(), 1);
        Due.same("put again", x.put(0, 9, true), 14);
        Due.same("get", x.get(0), 9);
    }

    static void promise3_archivedSegmentsMakeRoomToTheLastRecord() {
        PageRescue x = new PageRescue(4, 1);
        Calls.emptyCommits(x, 16);
        x.archive();
        Calls.emptyCommits(x, 1);
        x.begin();
        Due.same("LEFT 3", x.put(0, 9, true), 18);
        Due.same("LEFT 2", x.put(0, 9, true), PageRescue.FULL);
    }

    private static void keyIsTaken(int key, int page) {
        PageRescue x = new PageRescue(4, 1);
        x.begin();
        Due.same("put(" + key + ")", x.put(key, 7, true), 1);
        for (int other = 0; other < 32; other++) {
            Due.same("get(" + other + ")", x.get(other), other == key ? 7 : PageRescue.ABSENT);
        }
        for (int other = 0; other < 8; other++) {
            Due.same("page(" + other + ", 0)", x.page(other, 0), other == page ? 1 : 0);
        }
    }

    private static void keyIsRefused(int key) {
        Unchanged.inAllStates(x -> x.put(key, 7, true), REFUSED);
        Unchanged.inAllStates(x -> x.put(key, 7, false), REFUSED);
    }

    private static void valueIsTaken(int value) {
        PageRescue x = new PageRescue(4, 1);
        x.begin();
        Due.same("put", x.put(13, value, true), 1);
        Due.same("get", x.get(13), value);
        x.commit();
        x.restore(1);
        Due.same("look", x.look(13), value);
        x.begin();
        x.put(13, 1, false);
        x.abort();
        Due.same("get after an UNDO", x.get(13), value);
    }

    private static void leftIsEnough(int changes, int left) {
        PageRescue x = States.openWith(changes, left);
        Due.same("put", x.put(31, 9, true), 16 - left + 1);
        Due.same("LEFT", x.count(5), left - 1);
        Due.same("get", x.get(31), 9);
        Due.same("all can be undone", x.abort(), changes + 1);
        Due.same("to the last record", x.count(5), 0);
        Due.same("get", x.get(31), PageRescue.ABSENT);
    }

    private static void leftIsTooFew(int changes, int left) {
        Unchanged.after("LEFT " + left, () -> States.openWith(changes, left), x -> x.put(31, 9, true), PageRescue.FULL);
        Unchanged.after("LEFT " + left, () -> States.openWith(changes, left), x -> x.put(4, 9, false), PageRescue.FULL);
    }
}
