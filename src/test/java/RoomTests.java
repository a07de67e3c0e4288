import java.lang.management.ManagementFactory;
import java.lang.reflect.Array;
import java.lang.reflect.Field;
import java.lang.reflect.Modifier;
import java.util.ArrayList;
import java.util.List;

/** All calls of a run live in one room: a place is small, and its calls make next to nothing. */
public final class RoomTests {
    private static final int ROUNDS = 25;
    private static final long MOST_BYTES = 4_000;
    private static final int MOST_OBJECTS = 120;
    private static final int MOST_FIELDS = 2_500;

    private RoomTests() {
    }

    public static void main(String[] args) throws IllegalAccessException {
        callsMakeNextToNothing();
        placeIsSmall();
        Checks.finish();
    }

    private static void callsMakeNextToNothing() {
        SnowSites first = Checks.placeWith(new int[] {1, 0, 1, 2}, new int[] {2, 2}, new int[] {6, 1});
        prepare(first);
        callAll(first);
        SnowSites place = Checks.placeWith(new int[] {1, 0, 1, 2}, new int[] {2, 2}, new int[] {6, 1});
        prepare(place);
        long before = bytesMade();
        for (int i = 0; i < ROUNDS; i++) {
            callAll(place);
        }
        long made = bytesMade() - before;
        Checks.is("bytes that " + ROUNDS + " rounds of calls made: " + made, made <= MOST_BYTES ? 1 : 0, 1);
    }

    /** All objects and arrays that a new place holds, and their fields and elements. */
    private static void placeIsSmall() throws IllegalAccessException {
        List<Object> found = new ArrayList<>();
        found.add(new SnowSites());
        int fields = 0;
        for (int i = 0; i < found.size(); i++) {
            Object one = found.get(i);
            if (one.getClass().isArray()) {
                fields += Array.getLength(one);
                for (int at = 0; at < Array.getLength(one) && !one.getClass().getComponentType().isPrimitive(); at++) {
                    addNew(found, Array.get(one, at));
                }
            } else {
                fields += addFields(found, one);
            }
        }
        Checks.is("objects: " + found.size(), found.size() <= MOST_OBJECTS ? 1 : 0, 1);
        Checks.is("fields and elements: " + fields, fields <= MOST_FIELDS ? 1 : 0, 1);
    }

    private static int addFields(List<Object> found, Object one) throws IllegalAccessException {
        int fields = 0;
        for (Field field : one.getClass().getDeclaredFields()) {
            if (!Modifier.isStatic(field.getModifiers())) {
                fields++;
                field.setAccessible(true);
                if (!field.getType().isPrimitive()) {
                    addNew(found, field.get(one));
                }
            }
        }
        return fields;
    }

    private static void addNew(List<Object> found, Object one) {
        boolean known = one == null;
        for (Object other : found) {
            known |= other == one;
        }
        if (!known) {
            found.add(one);
        }
    }

    private static void prepare(SnowSites place) {
        place.addTool(20);
        prepareOrders(place);
    }

    private static void prepareOrders(SnowSites place) {
        Checks.typeAll(place, "snow 1;press 0 1;wall 3;cloud 24;again;");
    }

    private static void callAll(SnowSites place) {
        place.addSnow(100);
        place.press(0, 1);
        place.undo();
        place.stack(1, 2);
        place.undo();
        place.carve(0, 1, 0, 5);
        place.undo();
        place.addTool(5);
        place.undo();
        place.setWall(2, true);
        place.block(1, 0, 2);
        place.site(1, 1);
        place.tool(0, 1);
        place.whole(6);
        place.minutesFor(0, 9999);
        place.reason(0, 1, 0, 5);
        place.recycle();
        place.hour(true);
        place.ballot(1, 2, 6);
        place.rounds();
        place.votes(0, 1);
        place.winner();
        place.volumeIn(1, 48);
        place.goneIn(1);
        place.bestWall();
        place.clearBallots();
        place.runOrders();
        place.clearOrders();
        prepareOrders(place);
        place.digest();
        place.undo();
    }

    private static long bytesMade() {
        com.sun.management.ThreadMXBean bean = (com.sun.management.ThreadMXBean) ManagementFactory.getThreadMXBean();
        return bean.getThreadAllocatedBytes(Thread.currentThread().getId());
    }
}
