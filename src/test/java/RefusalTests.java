/**
 * Each refused call: which exception it throws when several apply (the one that the promise lists
 * first), and that it changes nothing. Every argument goes through good values and bad ones at once.
 */
public final class RefusalTests {
    private static final int LEAST = Integer.MIN_VALUE;
    private static final int MOST = Integer.MAX_VALUE;
    private static final String INDEX = "IndexOutOfBoundsException";
    private static final String ARGUMENT = "IllegalArgumentException";
    private static final String STATE = "IllegalStateException";
    private static final Twins.Maker[] MAKERS = {SnowSites::new, Places::busy, Places::full};
    private static final int[] ANY_SITE = {LEAST, -1, 0, 2, 7, 8, MOST};
    private static final int[] ANY_KIND = {LEAST, -1, 0, 2, 3, MOST};
    private static final int[] ANY_TOOL = {LEAST, -1, 0, 1, 4, 5, MOST};
    private static final int[] ANY_LEVEL = {LEAST, -1, 0, 1, 5, 6, MOST};
    private static final int[] ANY_UNITS = {LEAST, 0, 1, 66, 67, 100, 101, MOST};

    private RefusalTests() {
    }

    public static void main(String[] args) {
        addSnow();
        press();
        stack();
        setWall();
        addTool();
        carve();
        ballot();
        block();
        site();
        tool();
        whole();
        votes();
        reason();
        volumeIn();
        goneIn();
        minutesFor();
        type();
        undo();
        refusedAgainAndAgain();
        Checks.finish();
    }

    private static boolean within(int value, int least, int most) {
        return value >= least && value <= most;
    }

    private static String when(boolean applies, String exception) {
        return applies ? exception : "";
    }

    /** The exceptions stand in the promise's order; those that do not apply are empty. */
    private static void first(String what, Twins.Maker maker, Twins.Call call, String... exceptions) {
        for (String exception : exceptions) {
            if (!exception.isEmpty()) {
                Twins.ends(what, maker, call, exception);
                return;
            }
        }
        String end = Twins.endOf(call, maker.make());
        Checks.is(what + " is not refused, but " + end, end.endsWith("Exception") ? 1 : 0, 0);
    }

    private static void addSnow() {
        Checks.sentence("Promise 2: IllegalArgumentException, IllegalStateException");
        for (Twins.Maker maker : MAKERS) {
            int snow = maker.make().whole(0);
            for (int units : new int[] {LEAST, -1, 0, 1, 9999 - snow, 10000 - snow, 9999, 10000, MOST - snow, MOST}) {
                first("addSnow " + units, maker, p -> p.addSnow(units), when(!within(units, 1, 9999), ARGUMENT),
                    when((long) snow + units > 9999, STATE));
            }
        }
    }

    private static void press() {
        Checks.sentence("Promise 3: IllegalArgumentException, IllegalStateException");
        for (Twins.Maker maker : MAKERS) {
            SnowSites before = maker.make();
            for (int kind : ANY_KIND) {
                int stock = within(kind, 0, 2) ? before.whole(1 + kind) : 0;
                for (int blocks : new int[] {LEAST, -1, 0, 1, 20, 21, 22, 50, 51, 42949673, MOST}) {
                    first("press " + kind + " " + blocks, maker, p -> p.press(kind, blocks),
                        when(!within(kind, 0, 2) || !within(blocks, 1, 50), ARGUMENT),
                        when(before.whole(0) < 100L * blocks || stock + (long) blocks > 50, STATE));
                }
            }
        }
    }

    private static void stack() {
        Checks.sentence("Promise 4: IndexOutOfBoundsException, IllegalArgumentException, IllegalStateException");
        for (Twins.Maker maker : MAKERS) {
            SnowSites before = maker.make();
            for (int site : ANY_SITE) {
                for (int kind : ANY_KIND) {
                    first("stack " + site + " " + kind, maker, p -> p.stack(site, kind), when(!within(site, 0, 7), INDEX),
                        when(!within(kind, 0, 2), ARGUMENT),
                        when(within(site, 0, 7) && within(kind, 0, 2) && cannotStack(before, site, kind), STATE));
                }
            }
        }
    }

    private static boolean cannotStack(SnowSites place, int site, int kind) {
        return place.whole(1 + kind) < 1 || place.site(site, 0) > 5;
    }

    private static void setWall() {
        Checks.sentence("Promise 5: IndexOutOfBoundsException");
        for (Twins.Maker maker : MAKERS) {
            for (int site : ANY_SITE) {
                first("wall at " + site, maker, p -> p.setWall(site, true), when(!within(site, 0, 7), INDEX));
                first("no wall at " + site, maker, p -> p.setWall(site, false), when(!within(site, 0, 7), INDEX));
            }
        }
    }

    private static void addTool() {
        Checks.sentence("Promise 6: IllegalArgumentException, IllegalStateException");
        for (Twins.Maker maker : MAKERS) {
            int tools = maker.make().whole(10);
            for (int speed : new int[] {LEAST, -1, 0, 1, 20, 21, MOST}) {
                first("addTool " + speed, maker, p -> p.addTool(speed), when(!within(speed, 1, 20), ARGUMENT),
                    when(tools == 5, STATE));
            }
        }
    }

    private static boolean cannotCarve(SnowSites place, int tool, int site, int level, int units) {
        if (level >= place.site(site, 0) || units > place.block(site, level, 1)) {
            return true;
        }
        return place.minutesFor(tool, units) > place.tool(tool, 1);
    }

    private static void carve() {
        Checks.sentence("Promise 7: IndexOutOfBoundsException, IllegalArgumentException, IllegalStateException");
        for (Twins.Maker maker : new Twins.Maker[] {SnowSites::new, Places::busy, RefusalTests::worn}) {
            SnowSites before = maker.make();
            for (int tool : ANY_TOOL) {
                for (int site : ANY_SITE) {
                    carve(maker, before, tool, site);
                }
            }
        }
    }

    private static void carve(Twins.Maker maker, SnowSites before, int tool, int site) {
        boolean known = within(tool, 0, before.whole(10) - 1) && within(site, 0, 7);
        for (int level : ANY_LEVEL) {
            for (int units : ANY_UNITS) {
                boolean good = within(level, 0, 5) && within(units, 1, 100);
                first("carve " + tool + " " + site + " " + level + " " + units, maker, p -> p.carve(tool, site, level, units),
                    when(!known, INDEX), when(!good, ARGUMENT),
                    when(known && good && cannotCarve(before, tool, site, level, units), STATE));
            }
        }
    }

    /** The busy place, but the tool 0 has no minute left, and the tool 1 has 23. */
    private static SnowSites worn() {
        SnowSites place = Places.busy();
        place.press(1, 5);
        for (int level = 2; level < 6; level++) {
            place.stack(2, 1);
        }
        for (int level = 3; level < 6; level++) {
            place.carve(0, 2, level, 100);
            place.stack(2, 1);
        }
        place.carve(1, 2, 3, 99);
        place.carve(1, 2, 4, 99);
        place.carve(1, 2, 5, 99);
        return place;
    }

    private static void ballot() {
        Checks.sentence("Promise 10: IllegalArgumentException, IllegalStateException");
        int[] any = {LEAST, -2, -1, 0, 1, 7, 8, MOST};
        for (Twins.Maker maker : new Twins.Maker[] {SnowSites::new, Places::full}) {
            boolean full = maker.make().whole(14) == 20;
            for (int first : any) {
                for (int second : any) {
                    for (int third : any) {
                        first("ballot " + first + " " + second + " " + third, maker, p -> p.ballot(first, second, third),
                            when(!goodBallot(first, second, third), ARGUMENT), when(full, STATE));
                    }
                }
            }
        }
    }

    private static boolean goodBallot(int first, int second, int third) {
        if (!within(first, 0, 7) || !within(second, -1, 7) || !within(third, -1, 7)) {
            return false;
        }
        return second == -1 ? third == -1 : second != first && third != first && third != second;
    }

    private static void block() {
        Checks.sentence("Promise 12: IndexOutOfBoundsException, IllegalArgumentException");
        for (int site : ANY_SITE) {
            for (int level : ANY_LEVEL) {
                for (int what : ANY_KIND) {
                    first("block " + site + " " + level + " " + what, Places::busy, p -> p.block(site, level, what),
                        when(!within(site, 0, 7), INDEX), when(!within(level, 0, 5) || !within(what, 0, 2), ARGUMENT));
                }
            }
        }
    }

    private static void site() {
        Checks.sentence("Promise 13: IndexOutOfBoundsException, IllegalArgumentException");
        for (int site : ANY_SITE) {
            for (int what : new int[] {LEAST, -1, 0, 4, 5, MOST}) {
                first("site " + site + " " + what, Places::busy, p -> p.site(site, what), when(!within(site, 0, 7), INDEX),
                    when(!within(what, 0, 4), ARGUMENT));
            }
        }
    }

    private static void tool() {
        Checks.sentence("Promise 14: IndexOutOfBoundsException, IllegalArgumentException");
        for (Twins.Maker maker : MAKERS) {
            int tools = maker.make().whole(10);
            for (int tool : ANY_TOOL) {
                for (int what : ANY_KIND) {
                    first("tool " + tool + " " + what, maker, p -> p.tool(tool, what), when(!within(tool, 0, tools - 1), INDEX),
                        when(!within(what, 0, 2), ARGUMENT));
                }
            }
        }
    }

    private static void whole() {
        Checks.sentence("Promise 15: IllegalArgumentException");
        for (Twins.Maker maker : MAKERS) {
            for (int what : new int[] {LEAST, -1, 0, 1, 3, 15, 16, MOST}) {
                first("whole " + what, maker, p -> p.whole(what), when(!within(what, 0, 15), ARGUMENT));
            }
        }
    }

    private static void votes() {
        Checks.sentence("Promise 17: IllegalArgumentException, IndexOutOfBoundsException");
        for (Twins.Maker maker : MAKERS) {
            for (int round : new int[] {LEAST, -1, 0, 1, 7, 8, MOST}) {
                for (int site : ANY_SITE) {
                    first("votes " + round + " " + site, maker, p -> p.votes(round, site), when(round < 0, ARGUMENT),
                        when(!within(site, 0, 7), INDEX));
                }
            }
        }
    }

    private static void reason() {
        Checks.sentence("Promise 19: IndexOutOfBoundsException, IllegalArgumentException");
        int tools = Places.busy().whole(10);
        for (int tool : ANY_TOOL) {
            for (int site : ANY_SITE) {
                for (int level : ANY_LEVEL) {
                    for (int units : ANY_UNITS) {
                        first("reason " + tool + " " + site + " " + level + " " + units, Places::busy,
                            p -> p.reason(tool, site, level, units),
                            when(!within(tool, 0, tools - 1) || !within(site, 0, 7), INDEX),
                            when(!within(level, 0, 5) || !within(units, 1, 100), ARGUMENT));
                    }
                }
            }
        }
    }

    private static void volumeIn() {
        Checks.sentence("Promise 20: IndexOutOfBoundsException, IllegalArgumentException");
        for (int site : ANY_SITE) {
            for (int hours : new int[] {LEAST, -1, 0, 48, 49, MOST}) {
                first("volumeIn " + site + " " + hours, Places::busy, p -> p.volumeIn(site, hours),
                    when(!within(site, 0, 7), INDEX), when(!within(hours, 0, 48), ARGUMENT));
            }
        }
    }

    private static void goneIn() {
        Checks.sentence("Promise 21: IndexOutOfBoundsException");
        for (Twins.Maker maker : MAKERS) {
            for (int site : ANY_SITE) {
                first("goneIn " + site, maker, p -> p.goneIn(site), when(!within(site, 0, 7), INDEX));
            }
        }
    }

    private static void minutesFor() {
        Checks.sentence("Promise 23: IndexOutOfBoundsException, IllegalArgumentException");
        for (Twins.Maker maker : MAKERS) {
            int tools = maker.make().whole(10);
            for (int tool : ANY_TOOL) {
                for (int units : new int[] {LEAST, -1, 0, 9999, 10000, MOST}) {
                    first("minutesFor " + tool + " " + units, maker, p -> p.minutesFor(tool, units),
                        when(!within(tool, 0, tools - 1), INDEX), when(!within(units, 0, 9999), ARGUMENT));
                }
            }
        }
    }

    private static void type() {
        Checks.sentence("Promise 24: IllegalArgumentException, IllegalStateException");
        for (Twins.Maker maker : MAKERS) {
            boolean full = maker.make().whole(15) == 150;
            for (int value : new int[] {LEAST, -1, 0, 32, 59, 127, 128, 256 + 32, MOST}) {
                first("type " + value, maker, p -> p.type(value), when(!within(value, 0, 127), ARGUMENT), when(full, STATE));
            }
        }
    }

    private static void undo() {
        Checks.sentence("Promise 27: IllegalStateException");
        first("undo of a new object", SnowSites::new, SnowSites::undo, STATE);
        first("undo where a text was typed", () -> Places.withText("snow 5;"), SnowSites::undo, STATE);
        first("undo of a busy place", Places::busy, SnowSites::undo);
    }

    /** Also many refused calls leave nothing behind. */
    private static void refusedAgainAndAgain() {
        Checks.sentence("A call that throws an exception changes nothing.");
        SnowSites place = Places.full();
        Twins.Call[] calls = {p -> p.addSnow(1), p -> p.press(0, 1), p -> p.stack(3, 1), p -> p.setWall(9, false),
            p -> p.addTool(20), p -> p.carve(0, 0, 6, 1), p -> p.ballot(1, 2, 3), p -> p.type(32), p -> p.votes(-1, 0),
            p -> p.block(0, 0, 3), p -> p.volumeIn(0, 49), p -> p.goneIn(8), p -> p.minutesFor(5, 0)};
        for (int i = 0; i < 5 * calls.length; i++) {
            String end = Twins.endOf(calls[i % calls.length], place);
            Checks.is("refused: " + end, end.endsWith("Exception") ? 1 : 0, 1);
        }
        Twins.same("a full place that was asked in vain", place, Places.full());
    }
}
