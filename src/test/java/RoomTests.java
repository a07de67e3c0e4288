import java.lang.management.ManagementFactory;

/** All calls of a run live in one room: what the calls themselves make has to stay next to nothing. */
public final class RoomTests {
    private static final int ROUNDS = 25;
    private static final long MOST_BYTES = 4_000;

    private RoomTests() {
    }

    public static void main(String[] args) {
        SnowSites first = Checks.placeWith(new int[] {1, 0, 1, 2}, new int[] {2, 2}, new int[] {6, 1});
        prepare(first);
        callAll(first);
        SnowSites place = Checks.placeWith(new int[] {1, 0, 1, 2}, new int[] {2, 2}, new int[] {6, 1});
        prepare(place);
        long before = bytesMade();
        for (int i = 0; i < ROUNDS; i++) {
            callAll(place);
        }
        long made = bytesMade() - before;
        Checks.is("bytes that " + ROUNDS + " rounds of calls made: " + made, made <= MOST_BYTES ? 1 : 0, 1);
        Checks.finish();
    }

    private static void prepare(SnowSites place) {
        place.addTool(20);
        Checks.typeAll(place, "snow 1;press 0 1;wall 3;cloud 24;again;");
    }

    private static void callAll(SnowSites place) {
        place.addSnow(1);
        place.setWall(2, true);
        place.reason(0, 1, 0, 5);
        place.recycle();
        place.hour(true);
        place.ballot(1, 2, 6);
        place.rounds();
        place.votes(0, 1);
        place.winner();
        place.volumeIn(1, 48);
        place.goneIn(1);
        place.bestWall();
        place.clearBallots();
        place.runOrders();
        place.digest();
        place.undo();
    }

    private static long bytesMade() {
        com.sun.management.ThreadMXBean bean = (com.sun.management.ThreadMXBean) ManagementFactory.getThreadMXBean();
        return bean.getThreadAllocatedBytes(Thread.currentThread().getId());
    }
}
