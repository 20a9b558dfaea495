/** Promise 16: the numbers of ofBackup, a running backup, a given up one, and a dropped one. */
public final class Boundary16OfBackupTest {
    private static final int REFUSED = PageRescue.REFUSED;

    public static void main(String[] args) {
        Cases.runAll(Boundary16OfBackupTest.class, "promise16");
    }

    static void promise16_number1WithNoneFinishedIsRefused() {
        for (int what = 0; what <= 4; what++) {
            int w = what;
            Unchanged.after("new", States::fresh, x -> x.ofBackup(1, w), REFUSED);
        }
    }

    static void promise16_numberOfARunningOneIsRefused() {
        for (int visited = 0; visited < 8; visited++) {
            int v = visited;
            Unchanged.after("first, visited " + v, () -> States.running(true, v), x -> x.ofBackup(1, 0), REFUSED);
            Unchanged.after("second, visited " + v, () -> States.running(false, v), x -> x.ofBackup(2, 0), REFUSED);
        }
    }

    static void promise16_numberOfAGivenUpOneIsRefused() {
        PageRescue x = States.running(true, 7);
        x.crash(-1);
        Due.same("given up", x.ofBackup(1, 0), REFUSED);
    }

    static void promise16_number1IsTheFirstTold() {
        tell(States.quiet(), 1, 1, 1, 4, 4, 8);
    }

    static void promise16_lastNumberIsTold() {
        tell(States.quiet(), 2, 1, 0, 7, 10, 2);
    }

    static void promise16_oneAboveTheLastIsRefused() {
        numberIsRefused(3);
    }

    static void promise16_number0IsRefused() {
        numberIsRefused(0);
    }

    static void promise16_numberMinus1IsRefused() {
        numberIsRefused(-1);
    }

    static void promise16_numberLeastIntIsRefused() {
        numberIsRefused(Integer.MIN_VALUE);
    }

    static void promise16_numberGreatestIntIsRefused() {
        numberIsRefused(Integer.MAX_VALUE);
    }

    static void promise16_whatMinus1IsRefused() {
        whatIsRefused(-1);
    }

    static void promise16_what5IsRefused() {
        whatIsRefused(5);
    }

    static void promise16_whatLeastIntIsRefused() {
        whatIsRefused(Integer.MIN_VALUE);
    }

    static void promise16_whatGreatestIntIsRefused() {
        whatIsRefused(Integer.MAX_VALUE);
    }

    static void promise16_bothOutOfRangeIsRefused() {
        Unchanged.inAllStates(x -> x.ofBackup(0, -1), REFUSED);
        Unchanged.inAllStates(x -> x.ofBackup(Integer.MAX_VALUE, Integer.MIN_VALUE), REFUSED);
    }

    static void promise16_droppedOneIsStillTold() {
        PageRescue x = new PageRescue(8, 1);
        Calls.committed(x, 1, 0);
        x.backup(true);
        Calls.committed(x, 1, 0);
        x.step(8);
        tell(x, 1, 1, 1, 2, 4, 8);
        Calls.wholeBackup(x, false);
        tell(x, 2, 1, 0, 4, 4, 1);
        Calls.wholeBackup(x, true);
        tell(x, 1, 0, 1, 2, 4, 8);
        tell(x, 2, 0, 0, 4, 4, 1);
        tell(x, 3, 1, 1, 4, 4, 8);
    }

    static void promise16_noRecordNoImage() {
        PageRescue x = new PageRescue(4, 1);
        Calls.wholeBackup(x, true);
        tell(x, 1, 1, 1, 0, 0, 8);
        Calls.wholeBackup(x, false);
        tell(x, 2, 1, 0, 0, 0, 0);
    }

    static void promise16_incrementalWithAllPages() {
        PageRescue x = new PageRescue(8, 1);
        Calls.wholeBackup(x, true);
        Calls.committed(x, 1, 0, 4, 8, 12);
        Calls.committed(x, 1, 16, 20, 24, 28);
        Calls.wholeBackup(x, false);
        tell(x, 2, 1, 0, 10, 10, 8);
    }

    static void promise16_askingChangesNothing() {
        for (int what = 0; what <= 4; what++) {
            int w = what;
            int due = States.busy().ofBackup(2, w);
            Unchanged.after("busy", States::busy, x -> x.ofBackup(2, w), due);
        }
    }

    private static void tell(PageRescue x, int number, int... due) {
        for (int what = 0; what < due.length; what++) {
            Due.same("ofBackup(" + number + ", " + what + ")", x.ofBackup(number, what), due[what]);
        }
    }

    /** No state has as many as three finished backups. */
    private static void numberIsRefused(int number) {
        for (int what = 0; what <= 4; what++) {
            int w = what;
            Unchanged.inAllStates(x -> x.ofBackup(number, w), REFUSED);
        }
    }

    private static void whatIsRefused(int what) {
        Unchanged.inAllStates(x -> x.ofBackup(1, what), REFUSED);
        Unchanged.inAllStates(x -> x.ofBackup(2, what), REFUSED);
    }
}
