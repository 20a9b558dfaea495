/** Runs of calls that many tests start from, and everything that an object can be asked. */
final class Calls {
    private Calls() {
    }

    /** One transaction that puts the same value at each key and commits; answers the commit's number. */
    static int committed(PageRescue x, int value, int... keys) {
        x.begin();
        for (int key : keys) {
            x.put(key, value, true);
        }
        return x.commit();
    }

    /** One transaction that puts the same value at each key and aborts. */
    static int aborted(PageRescue x, int value, int... keys) {
        x.begin();
        for (int key : keys) {
            x.put(key, value, true);
        }
        return x.abort();
    }

    /** So many empty transactions, each with a commit: one record each. */
    static void emptyCommits(PageRescue x, int times) {
        for (int i = 0; i < times; i++) {
            x.begin();
            x.commit();
        }
    }

    static void wholeBackup(PageRescue x, boolean full) {
        x.backup(full);
        x.step(8);
    }

    /** What all keys have now. */
    static String table(PageRescue x) {
        StringBuilder all = new StringBuilder();
        for (int key = 0; key < 32; key++) {
            all.append(x.get(key)).append(' ');
        }
        return all.toString();
    }

    /** What all keys have in the scratch area. */
    static String scratch(PageRescue x) {
        StringBuilder all = new StringBuilder();
        for (int key = 0; key < 32; key++) {
            all.append(x.look(key)).append(' ');
        }
        return all.toString();
    }

    /** What the object answers to every question (113 calls and 5 for each finished backup). */
    static String allAnswers(PageRescue x) {
        StringBuilder all = new StringBuilder();
        for (int what = 0; what <= 8; what++) {
            all.append(" count").append(what).append('=').append(x.count(what));
        }
        for (int key = 0; key < 32; key++) {
            all.append(" get").append(key).append('=').append(x.get(key));
            all.append(" look").append(key).append('=').append(x.look(key));
        }
        for (int page = 0; page < 8; page++) {
            for (int what = 0; what <= 3; what++) {
                all.append(" page").append(page).append('.').append(what).append('=').append(x.page(page, what));
            }
        }
        for (int number = 1; number <= x.count(2); number++) {
            for (int what = 0; what <= 4; what++) {
                all.append(" backup").append(number).append('.').append(what).append('=').append(x.ofBackup(number, what));
            }
        }
        return all.toString();
    }
}
