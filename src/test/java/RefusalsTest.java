/** What is refused, FULL or GONE changes nothing that can be asked. */
public final class RefusalsTest {
    private static final int[] FAR = {Integer.MIN_VALUE, -1000, Integer.MAX_VALUE, 1000};

    public static void main(String[] args) {
        whileNothingRuns();
        whileAllRuns();
        whenFull();
        whenGone();
        Due.end();
    }

    private static void wrongNumbers(PageRescue x) {
        for (int far : FAR) {
            Due.same("put", x.put(far, 1, true), PageRescue.REFUSED);
            Due.same("get", x.get(far), PageRescue.NONE);
            Due.same("look", x.look(far), PageRescue.NONE);
            Due.same("write", x.write(far), PageRescue.REFUSED);
            Due.same("step", x.step(far), PageRescue.REFUSED);
            Due.same("crash", x.crash(far), PageRescue.REFUSED);
            Due.same("restore", x.restore(far), PageRescue.REFUSED);
            Due.same("page", x.page(far, 0), PageRescue.REFUSED);
            Due.same("page", x.page(0, far), PageRescue.REFUSED);
            Due.same("ofBackup", x.ofBackup(far, 0), PageRescue.REFUSED);
            Due.same("ofBackup", x.ofBackup(1, far), PageRescue.REFUSED);
            Due.same("count", x.count(far), PageRescue.REFUSED);
        }
    }

    private static void whileNothingRuns() {
        PageRescue x = new PageRescue(4, 1);
        String before = Calls.allAnswers(x);
        wrongNumbers(x);
        Due.same("put", x.put(0, 1, true), PageRescue.REFUSED);
        Due.same("commit", x.commit(), PageRescue.REFUSED);
        Due.same("abort", x.abort(), PageRescue.REFUSED);
        Due.same("archive", x.archive(), PageRescue.REFUSED);
        Due.same("backup", x.backup(false), PageRescue.REFUSED);
        Due.same("step", x.step(8), PageRescue.REFUSED);
        Due.same("restore", x.restore(1), PageRescue.REFUSED);
        Due.same("ofBackup", x.ofBackup(1, 0), PageRescue.REFUSED);
        Due.same("all answers", Calls.allAnswers(x), before);
    }

    private static void whileAllRuns() {
        PageRescue x = new PageRescue(4, 1);
        Calls.committed(x, 1, 0, 1);
        Calls.wholeBackup(x, true);
        x.restore(1);
        x.begin();
        x.put(4, 2, true);
        x.backup(false);
        x.step(1);
        String before = Calls.allAnswers(x);
        wrongNumbers(x);
        Due.same("begin", x.begin(), PageRescue.REFUSED);
        Due.same("backup", x.backup(true), PageRescue.REFUSED);
        Due.same("backup", x.backup(false), PageRescue.REFUSED);
        Due.same("all answers", Calls.allAnswers(x), before);
    }

    private static void whenFull() {
        PageRescue x = new PageRescue(4, 1);
        Calls.emptyCommits(x, 16);
        x.begin();
        String before = Calls.allAnswers(x);
        Due.same("put", x.put(0, 1, true), PageRescue.FULL);
        Due.same("commit", x.commit(), PageRescue.FULL);
        Due.same("all answers", Calls.allAnswers(x), before);
    }

    private static void whenGone() {
        PageRescue x = new PageRescue(4, 1);
        Calls.committed(x, 1, 0, 1, 2);
        x.restore(1);
        x.archive();
        Calls.wholeBackup(x, true);
        Calls.wholeBackup(x, true);
        String before = Calls.allAnswers(x);
        Due.same("restore", x.restore(1), PageRescue.GONE);
        Due.same("all answers", Calls.allAnswers(x), before);
    }
}
