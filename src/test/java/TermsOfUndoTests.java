import java.math.BigInteger;

/** "UNDO", "What it is" and the promises 1, 27 and 28: what is saved, what is kept, and the hash that wraps. */
public final class TermsOfUndoTests {
    private static final int MOST_CALLS = 512;
    private static final BigInteger WRAP = BigInteger.ONE.shiftLeft(64);

    private TermsOfUndoTests() {
    }

    public static void main(String[] args) {
        newObject();
        everyUndoableSavesOne();
        alsoIfItChangesNothing();
        othersSaveNone();
        refusedSavesNone();
        fromBeforeTheCall();
        everyPartComesBack();
        butTheOrderText();
        latestFour();
        ringAroundAndAround();
        emptyStack();
        removedFromTheStack();
        fifthSavedByARun();
        usedFor512Calls();
        longestDays();
        hashOfANewObject();
        hashOfMuchAndAll();
        hashOfEachStackHeight();
        hashChangesWithEachPart();
        Checks.finish();
    }

    private static void newObject() {
        Checks.sentence("Promise 1: without snow, blocks, walls, tools and ballots, at hour 0 of day 0, "
            + "with an empty order text and an empty undo stack.");
        for (int what = 0; what < 16; what++) {
            Checks.is("whole " + what, new SnowSites().whole(what), 0);
        }
        for (int site = 0; site < 8; site++) {
            int s = site;
            for (int what = 0; what < 5; what++) {
                Checks.is("site " + site + ", value " + what, new SnowSites().site(site, what), 0);
            }
            for (int level = 0; level < 6; level++) {
                for (int what = 0; what < 3; what++) {
                    Checks.is("block", new SnowSites().block(site, level, what), SnowSites.NONE);
                }
            }
            Checks.is("gone in", new SnowSites().goneIn(site), SnowSites.NONE);
            Checks.is("volume in 48 hours", new SnowSites().volumeIn(site, 48), 0);
            Twins.badState("a block of no stock", SnowSites::new, p -> p.stack(s, 0));
        }
        Twins.badState("undo", SnowSites::new, SnowSites::undo);
        Twins.noIndex("tool 0", SnowSites::new, p -> p.tool(0, 0));
        Twins.answers("best wall", SnowSites::new, SnowSites::bestWall, SnowSites.NONE);
        SnowSites used = Places.busy();
        Checks.is("the objects share nothing: hash", new SnowSites().digest(), hashOf(new SnowSites(), 0));
        Checks.is("the used one is used", used.whole(5), 3);
    }

    private static final Twins.Call[] UNDOABLE = {p -> p.addSnow(1), p -> p.press(0, 1), p -> p.stack(0, 0),
        p -> p.setWall(1, true), p -> p.addTool(3), p -> p.carve(0, 2, 0, 1), SnowSites::recycle, p -> p.hour(false),
        p -> p.hour(true), p -> p.ballot(1, 2, 3), SnowSites::clearBallots, SnowSites::runOrders};

    private static void everyUndoableSavesOne() {
        Checks.sentence("Every method that is marked \"undoable\" saves the whole state [..] when it ends normally");
        for (int i = 0; i < UNDOABLE.length; i++) {
            SnowSites place = nearlyBusy(1);
            UNDOABLE[i].on(place);
            Checks.is("states behind call " + i, place.undo(), 1);
        }
    }

    /** As the busy place, but with this many states on its stack. */
    private static SnowSites nearlyBusy(int states) {
        SnowSites place = Places.busy();
        for (int left = 4; left > states; left--) {
            place.undo();
        }
        return place;
    }

    private static void alsoIfItChangesNothing() {
        Checks.sentence("also if it changes nothing.");
        Twins.Call[] idle = {SnowSites::recycle, SnowSites::clearBallots, SnowSites::runOrders, p -> p.setWall(0, false)};
        for (int i = 0; i < idle.length; i++) {
            SnowSites place = new SnowSites();
            Checks.is("idle call " + i, idle[i].on(place), 0);
            Checks.is("idle call " + i + " again", idle[i].on(place), 0);
            Checks.is("states", place.undo(), 1);
            Checks.is("states", place.undo(), 0);
        }
        SnowSites walled = new SnowSites();
        walled.setWall(4, true);
        walled.setWall(4, true);
        Checks.is("states", walled.undo(), 1);
        Checks.is("the wall is still there", walled.whole(11), 1);
    }

    private static final Twins.Call[] OTHERS = {p -> p.block(2, 0, 2), p -> p.site(2, 4), p -> p.tool(1, 2), p -> p.whole(6),
        SnowSites::rounds, p -> p.votes(0, 2), SnowSites::winner, p -> p.reason(0, 2, 0, 1), p -> p.volumeIn(3, 48),
        p -> p.goneIn(3), SnowSites::bestWall, p -> p.minutesFor(0, 9999), SnowSites::digest};

    private static void othersSaveNone() {
        Checks.sentence("(No method is undoable that is not marked so, and a question changes nothing.)");
        for (int i = 0; i < OTHERS.length; i++) {
            SnowSites asked = Places.busy();
            String due = Twins.endOf(OTHERS[i], Places.busy());
            Checks.is("question " + i, Twins.endOf(OTHERS[i], asked), due);
            Checks.is("question " + i + " again", Twins.endOf(OTHERS[i], asked), due);
            Twins.same("question " + i, asked, Places.busy());
        }
        SnowSites typed = new SnowSites();
        typed.type(';');
        Twins.badState("type saves none", () -> Places.withText(";"), SnowSites::undo);
        typed.clearOrders();
        Checks.is("nor does clearOrders", typed.digest(), hashOf(new SnowSites(), 0));
    }

    private static void refusedSavesNone() {
        Checks.sentence("saves [..] when it ends normally");
        Twins.Call[] refused = {p -> p.addSnow(0), p -> p.addSnow(9999), p -> p.press(0, 51), p -> p.press(0, 50),
            p -> p.stack(8, 0), p -> p.stack(0, 3), p -> p.setWall(8, true), p -> p.addTool(21), p -> p.carve(5, 0, 0, 1),
            p -> p.carve(0, 2, 0, 0), p -> p.carve(0, 4, 0, 1), p -> p.ballot(8, -1, -1), p -> p.type(128)};
        for (int i = 0; i < refused.length; i++) {
            SnowSites place = nearlyBusy(2);
            Checks.is("refused call " + i, Twins.endOf(refused[i], place).endsWith("Exception") ? 1 : 0, 1);
            Twins.same("refused call " + i, place, nearlyBusy(2));
        }
        Twins.answers("a run with a fault", () -> nearlyBusyWith("snow 1;x"), SnowSites::runOrders, -17);
    }

    private static SnowSites nearlyBusyWith(String text) {
        SnowSites place = nearlyBusy(2);
        Checks.typeAll(place, text);
        return place;
    }

    private static void fromBeforeTheCall() {
        Checks.sentence("The saved state is the one from before the call.");
        for (int i = 0; i < UNDOABLE.length; i++) {
            SnowSites place = nearlyBusy(3);
            UNDOABLE[i].on(place);
            Checks.is("undo of call " + i, place.undo(), 3);
            Twins.same("undo of call " + i, place, nearlyBusy(3));
        }
    }

    /** One undoable call for each part of the state; what it answers for is looked at before, behind it, and behind undo. */
    private static void everyPartComesBack() {
        Checks.sentence("saves the whole state");
        part("snow", p -> p.addSnow(7), p -> p.whole(0));
        for (int kind = 0; kind < 3; kind++) {
            int k = kind;
            part("stock " + k, p -> p.press(k, 2), p -> p.whole(1 + k));
            part("kind " + k, p -> p.stack(0, k), p -> p.block(0, 0, 0));
        }
        part("blocks made", p -> p.press(0, 2), p -> p.whole(4));
        part("sculptures", p -> p.stack(0, 1), p -> p.whole(5));
        part("volumes", p -> p.carve(0, 2, 0, 9), p -> p.block(2, 0, 1));
        part("offcuts", p -> p.carve(0, 2, 0, 9), p -> p.whole(7));
        part("carved", p -> p.carve(0, 2, 0, 9), p -> p.site(2, 3));
        part("minutes left", p -> p.carve(0, 2, 0, 9), p -> p.tool(0, 1));
        part("minutes used", p -> p.carve(0, 2, 0, 9), p -> p.tool(0, 2));
        part("minutes left after an hour", p -> p.hour(true), p -> p.tool(1, 1));
        part("a block gone", p -> p.carve(0, 3, 0, 93), p -> p.site(3, 0));
        part("what came down", p -> p.carve(0, 3, 0, 93), p -> p.block(3, 0, 0));
        part("melted", p -> p.hour(false), p -> p.whole(8));
        part("melted on a site", p -> p.hour(false), p -> p.site(7, 4));
        part("hour", p -> p.hour(true), p -> p.whole(12));
        part("put back", SnowSites::recycle, p -> p.whole(9));
        part("tools", p -> p.addTool(4), p -> p.whole(10));
        part("walls", p -> p.setWall(0, true), p -> p.whole(11));
        part("a wall", p -> p.setWall(3, false), p -> p.site(3, 2));
        part("ballots", p -> p.ballot(1, 2, 3), p -> p.whole(14));
        part("votes", SnowSites::clearBallots, p -> p.votes(0, 3));
        part("all that a run did", SnowSites::runOrders, p -> p.whole(0));
        part("replaced ballots", p -> replaceBallots(p), p -> p.votes(0, 3));
        part("days", p -> Checks.run(p, "cloud 24;"), p -> p.whole(13));
    }

    /** As one undoable call: the state behind the clearing is undone at once. */
    private static long replaceBallots(SnowSites place) {
        place.clearBallots();
        place.ballot(7, -1, -1);
        return place.undo();
    }

    private static void part(String what, Twins.Call change, Twins.Call look) {
        SnowSites place = Places.busy();
        place.carve(0, 3, 0, 5);
        long before = look.on(place);
        change.on(place);
        Checks.is(what + " is another one", look.on(place) == before ? 1 : 0, 0);
        place.undo();
        Checks.is(what + " behind undo", look.on(place), before);
    }

    private static void butTheOrderText() {
        Checks.sentence("the whole state but the order text");
        SnowSites place = new SnowSites();
        place.addSnow(1);
        Checks.typeAll(place, "snow 20;");
        Checks.is("undo", place.undo(), 0);
        Checks.is("what was typed stays", place.whole(15), 8);
        Checks.is("and runs", place.runOrders(), 1);
        Checks.is("snow", place.whole(0), 20);
        place.clearOrders();
        Checks.is("undo of the run", place.undo(), 0);
        Checks.is("what was cleared stays cleared", place.whole(15), 0);
        place.type('w');
        place.addSnow(3);
        place.undo();
        Checks.is("one byte stays", place.whole(15), 1);
    }

    private static void latestFour() {
        Checks.sentence("The stack keeps the latest 4 saved states and drops older ones.");
        for (int calls = 0; calls <= 9; calls++) {
            SnowSites place = new SnowSites();
            for (int i = 0; i < calls; i++) {
                place.addSnow(1);
            }
            int states = Math.min(calls, 4);
            Checks.is("states in the hash", place.digest(), hashOf(place, states));
            for (int left = states - 1; left >= 0; left--) {
                Checks.is("states left", place.undo(), left);
                Checks.is("snow", place.whole(0), calls - states + left);
            }
            Checks.is("then", Twins.endOf(SnowSites::undo, place), "IllegalStateException");
            Checks.is("the oldest state that was kept", place.whole(0), calls - states);
        }
    }

    /** Undo and new calls in turn, compared with a list of all states. */
    private static void ringAroundAndAround() {
        Checks.sentence("keeps the latest 4 saved states and drops older ones.");
        SnowSites place = new SnowSites();
        int[] kept = new int[300];
        int size = 0;
        int snow = 0;
        for (int step = 0; step < 200; step++) {
            boolean back = step * step % 7 > 2 && step % 3 != 0;
            if (back && size > 0) {
                size--;
                snow = kept[size];
                Checks.is("states left in step " + step, place.undo(), size);
            } else {
                if (size == 4) {
                    System.arraycopy(kept, 1, kept, 0, 3);
                    size = 3;
                }
                kept[size++] = snow;
                snow += 1 + step % 5;
                place.addSnow(1 + step % 5);
            }
            Checks.is("snow in step " + step, place.whole(0), snow);
        }
    }

    private static void emptyStack() {
        Checks.sentence("Promise 27: Throws IllegalStateException if the stack is empty");
        Twins.badState("at first", SnowSites::new, SnowSites::undo);
        Twins.badState("after the last one", () -> nearlyBusy(0), SnowSites::undo);
        SnowSites place = new SnowSites();
        for (int i = 0; i < 3; i++) {
            Checks.is("still refused", Twins.endOf(SnowSites::undo, place), "IllegalStateException");
        }
        place.addSnow(5);
        Checks.is("one again", place.undo(), 0);
        Checks.is("and none", Twins.endOf(SnowSites::undo, place), "IllegalStateException");
    }

    private static void removedFromTheStack() {
        Checks.sentence("Restores the latest saved state and removes it from the undo stack.");
        SnowSites place = new SnowSites();
        place.addSnow(1);
        place.addSnow(2);
        Checks.is("undo", place.undo(), 1);
        Checks.is("the latest one", place.whole(0), 1);
        place.addSnow(4);
        Checks.is("undo", place.undo(), 1);
        Checks.is("the one from before the new call", place.whole(0), 1);
        Checks.is("undo", place.undo(), 0);
        Checks.is("the first one", place.whole(0), 0);
    }

    private static void fifthSavedByARun() {
        Checks.sentence("A run saves one state, the one from before it");
        SnowSites place = new SnowSites();
        for (int i = 0; i < 4; i++) {
            place.addSnow(1);
        }
        Checks.is("a run as the fifth", Checks.run(place, "snow 5;snow 5;"), 2);
        Checks.is("undo of the run", place.undo(), 3);
        Checks.is("snow", place.whole(0), 4);
        place.undo();
        place.undo();
        Checks.is("the last one", place.undo(), 0);
        Checks.is("the state before the first call was dropped", place.whole(0), 1);
    }

    private static void usedFor512Calls() {
        Checks.sentence("An object is used for at most 512 calls after it has been made");
        SnowSites place = new SnowSites();
        for (int call = 1; call <= MOST_CALLS - 2; call++) {
            if (call % 2 == 1) {
                Checks.is("call " + call, place.addSnow(1), call / 2 + 1);
            } else {
                Checks.is("call " + call, place.hour(false), 0);
            }
        }
        Checks.is("call 511", place.whole(13), (MOST_CALLS / 2 - 1) / 12);
        Checks.is("call 512", place.undo(), 3);
    }

    /** The most hours that 512 calls can bring: 150 bytes are typed, and run by all the others but two. */
    private static void longestDays() {
        Checks.sentence("An object is used for at most 512 calls after it has been made");
        SnowSites place = new SnowSites();
        String text = "sun 24;".repeat(21);
        for (int i = 0; i < text.length(); i++) {
            place.type(text.charAt(i));
        }
        int runs = MOST_CALLS - text.length() - 2;
        for (int i = 0; i < runs; i++) {
            Checks.is("run " + i, place.runOrders(), 21);
        }
        Checks.is("days", place.whole(13), 2 * 21 * runs);
        Checks.is("hour", place.whole(12), 0);
    }

    /** The hash by the words of promise 28, in numbers that do not overflow. */
    private static long hashOf(SnowSites place, int states) {
        BigInteger[] hash = {BigInteger.valueOf(43420)};
        mix(hash, states);
        for (int what = 0; what <= 15; what++) {
            mix(hash, place.whole(what));
        }
        for (int site = 0; site <= 7; site++) {
            for (int what = 0; what <= 4; what++) {
                mix(hash, place.site(site, what));
            }
            for (int level = 0; level < place.site(site, 0); level++) {
                for (int what = 0; what <= 2; what++) {
                    mix(hash, place.block(site, level, what));
                }
            }
        }
        for (int tool = 0; tool < place.whole(10); tool++) {
            for (int what = 0; what <= 2; what++) {
                mix(hash, place.tool(tool, what));
            }
        }
        mix(hash, place.rounds());
        for (int round = 0; round < place.rounds(); round++) {
            for (int site = 0; site <= 7; site++) {
                mix(hash, place.votes(round, site));
            }
        }
        mix(hash, place.winner());
        mix(hash, place.bestWall());
        return hash[0].mod(WRAP).longValue();
    }

    private static void mix(BigInteger[] hash, long value) {
        hash[0] = hash[0].multiply(BigInteger.valueOf(31)).add(BigInteger.valueOf(value));
    }

    private static void hashOfANewObject() {
        Checks.sentence("Promise 28: It starts with h = 43420.");
        BigInteger hash = BigInteger.valueOf(43420).multiply(BigInteger.valueOf(31).pow(1 + 16 + 40 + 1 + 2));
        hash = hash.subtract(BigInteger.valueOf(31)).subtract(BigInteger.ONE);
        Checks.is("a new object", new SnowSites().digest(), hash.mod(WRAP).longValue());
        Checks.is("asked again", new SnowSites().digest(), hashOf(new SnowSites(), 0));
    }

    private static void hashOfMuchAndAll() {
        Checks.sentence("h becomes 31 * h + v (long arithmetic, overflow wraps).");
        SnowSites busy = Places.busy();
        Checks.is("a busy place", busy.digest(), hashOf(busy, 4));
        SnowSites full = Places.full();
        Checks.is("a full place", full.digest(), hashOf(full, 4));
        full.undo();
        Checks.is("a full place, behind undo", full.digest(), hashOf(full, 3));
        int negative = 0;
        for (int i = 0; i < 40; i++) {
            busy.hour(i % 3 == 0);
            long hash = busy.digest();
            negative += hash < 0 ? 1 : 0;
            Checks.is("in hour " + i, hash, hashOf(busy, 4));
        }
        Checks.is("some are negative, some are not", negative > 0 && negative < 40 ? 1 : 0, 1);
    }

    private static void hashOfEachStackHeight() {
        Checks.sentence("the number of states on the undo stack");
        for (int states = 4; states >= 0; states--) {
            SnowSites place = nearlyBusy(states);
            Checks.is("with " + states + " states", place.digest(), hashOf(place, states));
        }
    }

    private static void hashChangesWithEachPart() {
        Checks.sentence("For each of the following values v, in this order");
        SnowSites place = Places.busy();
        for (int i = 0; i < UNDOABLE.length; i++) {
            long before = place.digest();
            UNDOABLE[i].on(place);
            Checks.is("the hash behind call " + i, place.digest(), hashOf(place, 4));
            Checks.is("call " + i + " changes it", place.digest() == before ? 1 : 0, 0);
        }
        long before = place.digest();
        place.type(' ');
        Checks.is("the length of the text", place.digest() == before ? 1 : 0, 0);
        Checks.is("with its hash", place.digest(), hashOf(place, 4));
    }
}
