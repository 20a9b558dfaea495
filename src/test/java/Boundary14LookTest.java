/** Promise 14: the keys of look, and a scratch area that is not open. */
public final class Boundary14LookTest {
    public static void main(String[] args) {
        Cases.runAll(Boundary14LookTest.class, "promise14");
    }

    static void promise14_key0IsTheFirstTold() {
        told(0);
    }

    static void promise14_key31IsTheLastTold() {
        told(31);
    }

    static void promise14_keyMinus1IsNone() {
        none(-1);
    }

    static void promise14_key32IsNone() {
        none(32);
    }

    static void promise14_keyLeastIntIsNone() {
        none(Integer.MIN_VALUE);
    }

    static void promise14_keyGreatestIntIsNone() {
        none(Integer.MAX_VALUE);
    }

    static void promise14_notOpenYetIsNone() {
        PageRescue x = new PageRescue(4, 1);
        allNone("new", x);
        Calls.committed(x, 1, 0, 31);
        allNone("after a commit", x);
        x.crash(0);
        x.lose();
        allNone("after crashes", x);
        Unchanged.after("new", States::fresh, y -> y.look(0), PageRescue.NONE);
    }

    static void promise14_notOpenAfterARefusedRestoreIsNone() {
        PageRescue x = new PageRescue(4, 1);
        x.restore(1);
        allNone("no commit", x);
        Calls.committed(x, 1, 0);
        x.restore(0);
        x.restore(2);
        allNone("out of range", x);
    }

    static void promise14_noValueIsAbsent() {
        PageRescue x = new PageRescue(4, 1);
        Calls.emptyCommits(x, 1);
        x.restore(1);
        for (int key = 0; key < 32; key++) {
            Due.same("look(" + key + ")", x.look(key), PageRescue.ABSENT);
        }
    }

    static void promise14_valueTakenAwayIsAbsent() {
        PageRescue x = new PageRescue(8, 1);
        Calls.committed(x, 1, 9);
        x.begin();
        x.put(9, 1, false);
        x.commit();
        x.restore(2);
        Due.same("look", x.look(9), PageRescue.ABSENT);
        x.restore(1);
        Due.same("look", x.look(9), 1);
        x.restore(2);
        Due.same("look", x.look(9), PageRescue.ABSENT);
    }

    static void promise14_leastAndGreatestIntAreTold() {
        PageRescue x = new PageRescue(8, 1);
        x.begin();
        x.put(0, Integer.MIN_VALUE, true);
        x.put(31, Integer.MAX_VALUE, true);
        x.commit();
        x.restore(1);
        Due.same("look(0)", x.look(0), -2147483648L);
        Due.same("look(31)", x.look(31), 2147483647L);
    }

    static void promise14_nothingButRestoreChangesIt() {
        PageRescue x = new PageRescue(4, 1);
        Calls.committed(x, 1, 0);
        x.restore(1);
        String before = Calls.scratch(x);
        Calls.committed(x, 2, 0, 31);
        Due.same("after commit", Calls.scratch(x), before);
        Calls.aborted(x, 3, 0);
        Due.same("after abort", Calls.scratch(x), before);
        x.archive();
        x.write(0);
        Calls.wholeBackup(x, true);
        Calls.wholeBackup(x, false);
        Due.same("after backups", Calls.scratch(x), before);
        x.crash(0);
        x.lose();
        Due.same("after crashes", Calls.scratch(x), before);
    }

    static void promise14_refusedAndGoneLeaveIt() {
        PageRescue x = States.purged();
        String before = Calls.scratch(x);
        Due.same("restore", x.restore(1), PageRescue.GONE);
        Due.same("restore", x.restore(3), PageRescue.REFUSED);
        Due.same("restore", x.restore(0), PageRescue.REFUSED);
        Due.same("looks", Calls.scratch(x), before);
        Due.same("look", x.look(4), 1);
    }

    static void promise14_lookChangesNothing() {
        Unchanged.after("busy", States::busy, x -> x.look(31), 1);
        Unchanged.after("busy", States::busy, x -> x.look(12), PageRescue.ABSENT);
    }

    private static void told(int key) {
        PageRescue x = new PageRescue(4, 1);
        Calls.emptyCommits(x, 1);
        Calls.committed(x, 5, key);
        x.restore(1);
        Due.same("look of none", x.look(key), PageRescue.ABSENT);
        x.restore(2);
        Due.same("look", x.look(key), 5);
    }

    private static void none(int key) {
        Unchanged.inAllStates(x -> x.look(key), PageRescue.NONE);
    }

    private static void allNone(String state, PageRescue x) {
        for (int key = 0; key < 32; key++) {
            Due.same("look(" + key + ") " + state, x.look(key), PageRescue.NONE);
        }
    }
}
