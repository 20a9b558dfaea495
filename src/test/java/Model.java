import java.util.ArrayList;
import java.util.HashMap;
import java.util.List;
import java.util.Map;

/**
 * The document told a second time, word by word and without regard to cost, to compare the program with.
 * Unlike the program it holds what is on each image, and builds tables by REDOING real images.
 */
final class Model {
    private record Entry(String kind, int key, Long content) {
    }

    private record Image(int number, Long[] contents) {
    }

    private record Put(int key, Long before) {
    }

    private enum Segment { ONLINE, ARCHIVED, PURGED }

    private static final class Copy {
        boolean full;
        boolean kept;
        int start;
        int end;
        int next;
        Map<Integer, Image> images = new HashMap<>();
    }

    private final int size;
    private final int keep;
    private final List<Entry> entries = new ArrayList<>();
    private final List<Segment> segments = new ArrayList<>();
    private final List<Copy> finished = new ArrayList<>();
    private final Image[] disk = new Image[8];
    private final boolean[] readable = new boolean[8];
    private Long[] table = new Long[32];
    private Long[] scratch = null;
    private List<Put> open = null;
    private Copy running = null;
    private boolean everPurged = false;
    private int redone = 0;

    Model(int size, int keep) {
        this.size = size < 4 ? 4 : size > 8 ? 8 : size;
        this.keep = keep < 1 ? 1 : keep > 3 ? 3 : keep;
        for (int page = 0; page < 8; page++) {
            disk[page] = empty();
            readable[page] = true;
        }
    }

    private static Image empty() {
        return new Image(0, new Long[4]);
    }

    private int made(String kind, int key, Long content) {
        if (entries.size() % size == 0) {
            segments.add(Segment.ONLINE);
        }
        if (segmentsThatAre(Segment.ONLINE) > 4) {
            throw new IllegalStateException("a fifth segment is online");
        }
        entries.add(new Entry(kind, key, content));
        if (kind.equals("CHANGE")) {
            table[key] = content;
        }
        return entries.size();
    }

    private int segmentsThatAre(Segment state) {
        int found = 0;
        for (Segment s : segments) {
            if (s == state) {
                found++;
            }
        }
        return found;
    }

    private int left() {
        int begun = entries.size() % size == 0 ? 0 : size - entries.size() % size;
        return (4 - segmentsThatAre(Segment.ONLINE)) * size + begun;
    }

    private int numberOf(int page) {
        for (int number = entries.size(); number >= 1; number--) {
            Entry e = entries.get(number - 1);
            if (e.kind.equals("CHANGE") && e.key / 4 == page) {
                return number;
            }
        }
        return 0;
    }

    private Image imageOf(int page) {
        Long[] contents = new Long[4];
        for (int i = 0; i < 4; i++) {
            contents[i] = table[4 * page + i];
        }
        return new Image(numberOf(page), contents);
    }

    private void redo(int page, Image from, int upTo, Long[] into) {
        for (int i = 0; i < 4; i++) {
            into[4 * page + i] = from.contents[i];
        }
        for (int number = from.number + 1; number <= upTo; number++) {
            Entry e = entries.get(number - 1);
            if (e.kind.equals("CHANGE") && e.key / 4 == page) {
                into[e.key] = e.content;
                redone++;
            }
        }
    }

    private void undo() {
        for (int i = open.size() - 1; i >= 0; i--) {
            made("CHANGE", open.get(i).key, open.get(i).before);
        }
        if (!open.isEmpty()) {
            made("END", -1, null);
        }
        open = null;
    }

    int begin() {
        if (open != null) {
            return -1;
        }
        open = new ArrayList<>();
        return 0;
    }

    int put(int key, int value, boolean present) {
        if (key < 0 || key > 31 || open == null || open.size() == 4) {
            return -1;
        }
        int c = open.size() + 1;
        if (left() < c + 2) {
            return -2;
        }
        open.add(new Put(key, table[key]));
        return made("CHANGE", key, present ? Long.valueOf(value) : null);
    }

    int commit() {
        if (open == null) {
            return -1;
        }
        if (left() == 0) {
            return -2;
        }
        made("COMMIT", -1, null);
        open = null;
        return commits();
    }

    private int commits() {
        int found = 0;
        for (Entry e : entries) {
            if (e.kind.equals("COMMIT")) {
                found++;
            }
        }
        return found;
    }

    int abort() {
        if (open == null) {
            return -1;
        }
        int had = open.size();
        undo();
        return had;
    }

    private static long told(Long content) {
        return content == null ? 1000000000000L : content;
    }

    long get(int key) {
        return key < 0 || key > 31 ? -1000000000000L : told(table[key]);
    }

    int write(int page) {
        if (page < 0 || page > 7) {
            return -1;
        }
        disk[page] = imageOf(page);
        readable[page] = true;
        return disk[page].number;
    }

    int archive() {
        for (int s = 1; s <= segments.size(); s++) {
            if (segments.get(s - 1) == Segment.ONLINE) {
                if (entries.size() < s * size) {
                    return -1;
                }
                segments.set(s - 1, Segment.ARCHIVED);
                return s;
            }
        }
        return -1;
    }

    private List<Copy> keptFull() {
        List<Copy> found = new ArrayList<>();
        for (Copy b : finished) {
            if (b.kept && b.full) {
                found.add(b);
            }
        }
        return found;
    }

    int backup(boolean full) {
        if (running != null || !full && keptFull().isEmpty()) {
            return -1;
        }
        running = new Copy();
        running.full = full;
        running.start = entries.size();
        return 0;
    }

    int step(int n) {
        if (n < 1 || n > 8 || running == null) {
            return -1;
        }
        for (int i = 0; i < n && running.next < 8; i++) {
            int page = running.next++;
            if (running.full || numberOf(page) > finished.get(finished.size() - 1).start) {
                running.images.put(page, imageOf(page));
            }
        }
        int left = 8 - running.next;
        if (left == 0) {
            finish();
        }
        return left;
    }

    private void finish() {
        Copy done = running;
        running = null;
        done.end = entries.size();
        done.kept = true;
        finished.add(done);
        List<Copy> full = keptFull();
        if (!done.full || full.size() <= keep) {
            return;
        }
        for (int i = finished.indexOf(full.get(0)); i < finished.indexOf(full.get(1)); i++) {
            finished.get(i).kept = false;
        }
        for (int s = 1; s <= segments.size(); s++) {
            if (segments.get(s - 1) == Segment.ARCHIVED && s * size <= full.get(1).start) {
                segments.set(s - 1, Segment.PURGED);
                everPurged = true;
            }
        }
    }

    int crash(int page) {
        if (page < -1 || page > 7) {
            return -1;
        }
        if (page >= 0) {
            readable[page] = false;
        }
        return recovery();
    }

    int lose() {
        for (int page = 0; page < 8; page++) {
            readable[page] = false;
        }
        return recovery();
    }

    private int recovery() {
        running = null;
        redone = 0;
        table = new Long[32];
        for (int page = 0; page < 8; page++) {
            redo(page, best(page), entries.size(), table);
        }
        if (open != null) {
            undo();
        }
        return redone;
    }

    private Image best(int page) {
        Image best = readable[page] ? disk[page] : null;
        for (Copy b : finished) {
            Image other = b.kept ? b.images.get(page) : null;
            if (other != null && (best == null || other.number > best.number)) {
                best = other;
            }
        }
        return best == null ? empty() : best;
    }

    private int recordOf(int commit) {
        int number = 0;
        for (int seen = 0; seen < commit; number++) {
            if (entries.get(number).kind.equals("COMMIT")) {
                seen++;
            }
        }
        return number;
    }

    int restore(int commit) {
        if (commit < 1 || commit > commits()) {
            return -1;
        }
        int m = recordOf(commit);
        int taken = -1;
        for (int i = 0; i < finished.size(); i++) {
            if (finished.get(i).kept && finished.get(i).end < m) {
                taken = i;
            }
        }
        if (taken < 0 && everPurged) {
            return -3;
        }
        redone = 0;
        scratch = new Long[32];
        for (int page = 0; page < 8; page++) {
            redo(page, taken < 0 ? empty() : fromChain(taken, page), m, scratch);
        }
        return redone;
    }

    private Image fromChain(int last, int page) {
        int first = last;
        while (!finished.get(first).full) {
            first--;
        }
        Image image = null;
        for (Copy b : finished.subList(first, last + 1)) {
            image = b.images.getOrDefault(page, image);
        }
        return image;
    }

    long look(int key) {
        return key < 0 || key > 31 || scratch == null ? -1000000000000L : told(scratch[key]);
    }

    int page(int page, int what) {
        if (page < 0 || page > 7 || what < 0 || what > 3) {
            return -1;
        }
        int copies = 0;
        for (Copy b : finished) {
            if (b.kept && b.images.containsKey(page)) {
                copies++;
            }
        }
        return new int[] {numberOf(page), disk[page].number, readable[page] ? 1 : 0, copies}[what];
    }

    int ofBackup(int number, int what) {
        if (number < 1 || number > finished.size() || what < 0 || what > 4) {
            return -1;
        }
        Copy b = finished.get(number - 1);
        return new int[] {b.kept ? 1 : 0, b.full ? 1 : 0, b.start, b.end, b.images.size()}[what];
    }

    int count(int what) {
        if (what < 0 || what > 8) {
            return -1;
        }
        int[] all = {
            entries.size(), commits(), finished.size(), segmentsThatAre(Segment.ONLINE),
            segmentsThatAre(Segment.ARCHIVED), left(), open == null ? 0 : 1,
            running == null ? -2 : 8 - running.next, open == null ? 0 : open.size(),
        };
        return all[what];
    }
}
