/** Promise 6: the keys of get, and what a key has that has nothing yet. */
public final class Boundary06GetTest {
    public static void main(String[] args) {
        Cases.runAll(Boundary06GetTest.class, "promise6");
    }

    static void promise6_key0IsTheFirstTold() {
        told(0);
    }

    static void promise6_key31IsTheLastTold() {
        told(31);
    }

    static void promise6_keyMinus1IsNone() {
        none(-1);
    }

    static void promise6_key32IsNone() {
        none(32);
    }

    static void promise6_keyLeastIntIsNone() {
        none(Integer.MIN_VALUE);
    }

    static void promise6_keyGreatestIntIsNone() {
        none(Integer.MAX_VALUE);
    }

    static void promise6_noValueYetIsAbsent() {
        PageRescue x = new PageRescue(4, 1);
        for (int key = 0; key < 32; key++) {
            Due.same("get(" + key + ")", x.get(key), PageRescue.ABSENT);
        }
    }

    static void promise6_changesOfTheOpenTransactionCount() {
        PageRescue x = new PageRescue(8, 1);
        Calls.committed(x, 1, 3);
        x.begin();
        Due.same("before", x.get(3), 1);
        x.put(3, 2, true);
        Due.same("after a put", x.get(3), 2);
        x.put(3, 2, false);
        Due.same("after a put of none", x.get(3), PageRescue.ABSENT);
        x.abort();
        Due.same("after the abort", x.get(3), 1);
    }

    static void promise6_leastAndGreatestIntAreTold() {
        PageRescue x = new PageRescue(8, 1);
        x.begin();
        x.put(0, Integer.MIN_VALUE, true);
        x.put(31, Integer.MAX_VALUE, true);
        Due.same("get(0)", x.get(0), -2147483648L);
        Due.same("get(31)", x.get(31), 2147483647L);
    }

    static void promise6_getChangesNothing() {
        Unchanged.after("busy", States::busy, x -> x.get(12), 5);
        Unchanged.after("busy", States::busy, x -> x.get(0), PageRescue.ABSENT);
    }

    private static void told(int key) {
        PageRescue x = new PageRescue(4, 1);
        Due.same("get of none", x.get(key), PageRescue.ABSENT);
        Calls.committed(x, 5, key);
        Due.same("get", x.get(key), 5);
    }

    private static void none(int key) {
        Unchanged.inAllStates(x -> x.get(key), PageRescue.NONE);
    }
}
