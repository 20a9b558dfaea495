import java.lang.reflect.Array;
import java.lang.reflect.Field;
import java.lang.reflect.Modifier;
import java.util.Collections;
import java.util.IdentityHashMap;
import java.util.List;
import java.util.Set;

/** How many objects and arrays an object of the program holds, and how many fields and elements they have together. */
public final class RoomTest {
    private static final int MOST_AT_FIRST = 2000;
    private static final int MOST_AFTER_ALL_CALLS = 8000;

    private final Set<Object> seen = Collections.newSetFromMap(new IdentityHashMap<>());
    private int parts = 0;

    public static void main(String[] args) throws Exception {
        room("a new object", new PageRescue(8, 3), 30, MOST_AT_FIRST);
        PageRescue backups = new PageRescue(8, 3);
        for (int made = 0; made < 256; made++) {
            Calls.wholeBackup(backups, made % 2 == 0);
        }
        room("512 calls of backup and step", backups, 600, MOST_AFTER_ALL_CALLS);
        PageRescue records = new PageRescue(8, 1);
        for (int made = 0; made < 170; made++) {
            Calls.committed(records, made, 0);
            records.restore(1);
            records.archive();
            records.crash(0);
        }
        room("commits, restores and crashes", records, 30, MOST_AT_FIRST);
        Due.end();
    }

    private static void room(String name, PageRescue x, int mostObjects, int mostParts) throws Exception {
        RoomTest test = new RoomTest();
        test.walk(x);
        Due.that(name + ": objects " + test.seen.size() + ", at most " + mostObjects, test.seen.size() <= mostObjects);
        Due.that(name + ": fields and elements " + test.parts + ", at most " + mostParts, test.parts <= mostParts);
        Due.that(name + ": all was counted", test.parts > 1600);
    }

    private void walk(Object object) throws Exception {
        if (object == null || !seen.add(object)) {
            return;
        }
        if (object.getClass().isArray()) {
            parts += Array.getLength(object);
        } else if (object instanceof List<?> list) {
            // A list that grows by halves has made up to four times as many places as it needs.
            parts += 4 * list.size() + 10;
            for (Object each : list) {
                walk(each);
            }
        } else {
            walkFields(object);
        }
    }

    private void walkFields(Object object) throws Exception {
        for (Field field : object.getClass().getDeclaredFields()) {
            if (!Modifier.isStatic(field.getModifiers())) {
                parts++;
                if (!field.getType().isPrimitive()) {
                    field.setAccessible(true);
                    walk(field.get(object));
                }
            }
        }
    }
}
