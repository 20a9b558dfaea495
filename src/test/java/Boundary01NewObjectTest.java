/** Promise 1: the numbers that the constructor clamps, at both ends, and what a new object does not have yet. */
public final class Boundary01NewObjectTest {
    public static void main(String[] args) {
        Cases.runAll(Boundary01NewObjectTest.class, "promise1");
    }

    static void promise1_sizeLeastIntIsClampedTo4() {
        sizeIs(Integer.MIN_VALUE, 4);
    }

    static void promise1_sizeMinus1IsClampedTo4() {
        sizeIs(-1, 4);
    }

    static void promise1_size0IsClampedTo4() {
        sizeIs(0, 4);
    }

    static void promise1_size3IsClampedTo4() {
        sizeIs(3, 4);
    }

    static void promise1_size4IsTheLeastTaken() {
        sizeIs(4, 4);
    }

    static void promise1_sizesBetweenAreTaken() {
        sizeIs(5, 5);
        sizeIs(6, 6);
        sizeIs(7, 7);
    }

    static void promise1_size8IsTheGreatestTaken() {
        sizeIs(8, 8);
    }

    static void promise1_size9IsClampedTo8() {
        sizeIs(9, 8);
    }

    static void promise1_sizeGreatestIntIsClampedTo8() {
        sizeIs(Integer.MAX_VALUE, 8);
    }

    static void promise1_keepLeastIntIsClampedTo1() {
        keepIs(Integer.MIN_VALUE, 1);
    }

    static void promise1_keepMinus1IsClampedTo1() {
        keepIs(-1, 1);
    }

    static void promise1_keep0IsClampedTo1() {
        keepIs(0, 1);
    }

    static void promise1_keep1IsTheLeastTaken() {
        keepIs(1, 1);
    }

    static void promise1_keep2IsTaken() {
        keepIs(2, 2);
    }

    static void promise1_keep3IsTheGreatestTaken() {
        keepIs(3, 3);
    }

    static void promise1_keep4IsClampedTo3() {
        keepIs(4, 3);
    }

    static void promise1_keepGreatestIntIsClampedTo3() {
        keepIs(Integer.MAX_VALUE, 3);
    }

    static void promise1_sizeAndKeepAreNotMixedUp() {
        sizeIs(8, 1, 8);
        sizeIs(1, 8, 4);
        keepIs(8, 1, 1);
        keepIs(1, 8, 3);
    }

    static void promise1_nothingIsThereYet() {
        PageRescue x = new PageRescue(4, 1);
        Due.same("no record", x.count(0), 0);
        Due.same("no commit", x.count(1), 0);
        Due.same("no finished backup", x.count(2), 0);
        Due.same("no online segment", x.count(3), 0);
        Due.same("no archived segment", x.count(4), 0);
        Due.same("LEFT", x.count(5), 16);
        Due.same("no open transaction", x.count(6), 0);
        Due.same("no running backup", x.count(7), -2);
        Due.same("no CHANGES", x.count(8), 0);
    }

    static void promise1_twoObjectsAreTwo() {
        PageRescue x = new PageRescue(4, 1);
        PageRescue y = new PageRescue(4, 1);
        String before = Calls.allAnswers(y);
        Calls.committed(x, 1, 0, 31);
        Calls.wholeBackup(x, true);
        x.restore(1);
        x.lose();
        x.begin();
        Due.same("the other object", Calls.allAnswers(y), before);
    }

    private static void sizeIs(int given, int size) {
        sizeIs(given, 1, size);
        sizeIs(given, 3, size);
    }

    /** LEFT of a new object tells SIZE, and so does the record with which the first segment is full. */
    private static void sizeIs(int given, int keep, int size) {
        PageRescue x = new PageRescue(given, keep);
        Due.same("LEFT with size " + given, x.count(5), 4 * size);
        Calls.emptyCommits(x, size - 1);
        Due.same("archive with one record too few, size " + given, x.archive(), PageRescue.REFUSED);
        Calls.emptyCommits(x, 1);
        Due.same("archive with size " + given, x.archive(), 1);
    }

    private static void keepIs(int given, int keep) {
        keepIs(4, given, keep);
        keepIs(8, given, keep);
    }

    private static void keepIs(int size, int given, int keep) {
        PageRescue x = new PageRescue(size, given);
        for (int made = 1; made <= 5; made++) {
            Calls.wholeBackup(x, true);
            Due.same("kept of " + made + " with keep " + given, x.page(0, 3), Math.min(made, keep));
        }
    }
}
