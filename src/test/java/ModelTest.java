import java.util.ArrayList;
import java.util.List;
import java.util.Random;

/** Many runs of up to 512 calls, drawn from fixed seeds, each answer compared with the model's. */
public final class ModelTest {
    private static final int RUNS = 1500;
    private static final int MOST_CALLS = 512;
    private static final int ASKED_AT_THE_END = 32 + 32 + 32 + 9;

    /** How often each kind of call is drawn, in the order of act's cases; each run takes one row. */
    private static final int[][] MOODS = {
        {10, 20, 8, 4, 3, 4, 8, 4, 6, 2, 1, 4, 3, 2, 2, 2},
        {10, 30, 10, 10, 1, 1, 20, 1, 2, 1, 1, 1, 1, 1, 1, 1},
        {10, 20, 10, 1, 1, 2, 10, 15, 25, 1, 1, 6, 1, 2, 3, 1},
        {10, 15, 8, 4, 1, 12, 6, 2, 4, 10, 4, 2, 1, 4, 1, 1},
        {12, 10, 12, 1, 1, 1, 9, 10, 12, 1, 0, 20, 10, 1, 1, 1},
        {10, 36, 2, 8, 0, 0, 9, 1, 2, 1, 0, 1, 0, 0, 0, 1},
    };

    private final Random random;
    private final PageRescue program;
    private final Model model;
    private final int[] mood;
    private final boolean wild;
    private final List<String> calls = new ArrayList<>();

    private ModelTest(int seed) {
        random = new Random(seed);
        // Not drawn: the first numbers of neighbouring seeds are much alike.
        int size = 2 + seed % 8;
        int keep = seed / 8 % 5;
        program = new PageRescue(size, keep);
        model = new Model(size, keep);
        mood = MOODS[seed / 40 % MOODS.length];
        wild = seed % 7 < 2;
        calls.add("new PageRescue(" + size + ", " + keep + ")");
    }

    public static void main(String[] args) {
        for (int seed = 0; seed < RUNS && !Due.anyWrong(); seed++) {
            new ModelTest(seed).run(seed % 3 == 0);
        }
        Due.end();
    }

    private void run(boolean askAllAtTheEnd) {
        int acts = askAllAtTheEnd ? MOST_CALLS - ASKED_AT_THE_END : MOST_CALLS;
        for (int i = 0; i < acts && !Due.anyWrong(); i++) {
            act(drawn());
        }
        if (askAllAtTheEnd) {
            askAll();
        }
        if (Due.anyWrong()) {
            System.out.println(String.join("; ", calls));
        }
    }

    private void askAll() {
        for (int key = 0; key < 32; key++) {
            due("get(" + key + ")", program.get(key), model.get(key));
            due("look(" + key + ")", program.look(key), model.look(key));
        }
        for (int i = 0; i < 32; i++) {
            due("page(" + i / 4 + ", " + i % 4 + ")", program.page(i / 4, i % 4), model.page(i / 4, i % 4));
        }
        for (int what = 0; what <= 8; what++) {
            due("count(" + what + ")", program.count(what), model.count(what));
        }
    }

    private void due(String call, long got, long want) {
        calls.add(call + " = " + got);
        Due.same(call, got, want);
    }

    private int drawn() {
        int total = 0;
        for (int weight : mood) {
            total += weight;
        }
        int at = random.nextInt(total);
        int kind = 0;
        while (at >= mood[kind]) {
            at -= mood[kind];
            kind++;
        }
        return kind;
    }

    /** Mostly one of low .. high; now and then just outside, in wild runs far outside too. */
    private int number(int low, int high) {
        int chance = random.nextInt(wild ? 10 : 40);
        if (chance == 0) {
            return random.nextBoolean() ? low - 1 : high + 1;
        }
        if (chance == 1 && wild) {
            return random.nextInt();
        }
        return low + random.nextInt(high - low + 1);
    }

    private void act(int kind) {
        switch (kind) {
            case 0 -> due("begin()", program.begin(), model.begin());
            case 1 -> actPut();
            case 2 -> due("commit()", program.commit(), model.commit());
            case 3 -> due("abort()", program.abort(), model.abort());
            case 4 -> actKey();
            case 5 -> actWrite();
            case 6 -> due("archive()", program.archive(), model.archive());
            case 7 -> actBackup();
            case 8 -> actStep();
            case 9 -> actCrash();
            case 10 -> due("lose()", program.lose(), model.lose());
            case 11 -> actRestore();
            case 12 -> actLook();
            case 13 -> actPage();
            case 14 -> actOfBackup();
            default -> actCount();
        }
    }

    private void actPut() {
        int key = number(0, 31);
        int value = random.nextInt();
        boolean present = random.nextInt(4) > 0;
        due("put(" + key + ", " + value + ", " + present + ")", program.put(key, value, present), model.put(key, value, present));
    }

    private void actKey() {
        int key = number(0, 31);
        due("get(" + key + ")", program.get(key), model.get(key));
    }

    private void actWrite() {
        int page = number(0, 7);
        due("write(" + page + ")", program.write(page), model.write(page));
    }

    private void actBackup() {
        boolean full = random.nextInt(3) == 0;
        due("backup(" + full + ")", program.backup(full), model.backup(full));
    }

    private void actStep() {
        int n = number(1, 8);
        due("step(" + n + ")", program.step(n), model.step(n));
    }

    private void actCrash() {
        int page = number(-1, 7);
        due("crash(" + page + ")", program.crash(page), model.crash(page));
    }

    private void actRestore() {
        int commit = number(1, Math.max(1, model.count(1)));
        due("restore(" + commit + ")", program.restore(commit), model.restore(commit));
    }

    private void actLook() {
        int key = number(0, 31);
        due("look(" + key + ")", program.look(key), model.look(key));
    }

    private void actPage() {
        int page = number(0, 7);
        int what = number(0, 3);
        due("page(" + page + ", " + what + ")", program.page(page, what), model.page(page, what));
    }

    private void actOfBackup() {
        int number = number(1, Math.max(1, model.count(2)));
        int what = number(0, 4);
        due("ofBackup(" + number + ", " + what + ")", program.ofBackup(number, what), model.ofBackup(number, what));
    }

    private void actCount() {
        int what = number(0, 8);
        due("count(" + what + ")", program.count(what), model.count(what));
    }
}
