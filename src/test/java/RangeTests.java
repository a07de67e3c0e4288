/** Promises 2 to 24: for each argument the last value that is allowed and the first one that is not, on both sides. */
public final class RangeTests {
    private static final int LEAST = Integer.MIN_VALUE;
    private static final int MOST = Integer.MAX_VALUE;
    private static final String INDEX = "IndexOutOfBoundsException";
    private static final String ARGUMENT = "IllegalArgumentException";

    private interface Argument {
        long on(SnowSites place, int value);
    }

    private RangeTests() {
    }

    public static void main(String[] args) {
        promise2();
        promise3();
        promise4();
        promise5();
        promise6();
        promise7();
        promise10();
        promise12();
        promise13();
        promise14();
        promise15();
        promise17();
        promise19();
        promise20();
        promise21();
        promise23();
        promise24();
        Checks.finish();
    }

    /** Much snow and stock, one tool of five, two blocks on site 3, room for more of everything. */
    private static SnowSites ready() {
        SnowSites place = Checks.placeWith(new int[] {3, 1, 1}, new int[] {0, 0}, new int[] {7, 2});
        place.addSnow(9000);
        place.addTool(20);
        place.ballot(3, 0, 7);
        return place;
    }

    private static void range(String words, int least, int most, String exception, Argument argument) {
        range(words, RangeTests::ready, least, most, exception, argument);
    }

    private static void range(String words, Twins.Maker maker, int least, int most, String exception, Argument argument) {
        Checks.sentence(words);
        for (int value : new int[] {least, Math.min(least + 1, most), Math.max(most - 1, least), most}) {
            String end = Twins.endOf(p -> argument.on(p, value), maker.make());
            Checks.is("with " + value + " no exception, but " + end, end.endsWith("Exception") ? 1 : 0, 0);
        }
        for (int value : new int[] {LEAST, least - 2, least - 1}) {
            Twins.ends("with " + value, maker, p -> argument.on(p, value), exception);
        }
        if (most < MOST) {
            for (int value : new int[] {most + 1, most + 2, most + 256, MOST}) {
                Twins.ends("with " + value, maker, p -> argument.on(p, value), exception);
            }
        }
    }

    private static void promise2() {
        range("Promise 2: units: 1 to 9999", SnowSites::new, 1, 9999, ARGUMENT, (p, v) -> p.addSnow(v));
    }

    private static void promise3() {
        range("Promise 3: kind: 0 to 2", 0, 2, ARGUMENT, (p, v) -> p.press(v, 20));
        range("Promise 3: blocks: 1 to 50", () -> Places.withSnow(9999), 1, 50, ARGUMENT, (p, v) -> p.press(2, v));
    }

    private static void promise4() {
        range("Promise 4: site: 0 to 7", 0, 7, INDEX, (p, v) -> p.stack(v, 1));
        range("Promise 4: kind: 0 to 2", 0, 2, ARGUMENT, (p, v) -> p.stack(3, v));
    }

    private static void promise5() {
        range("Promise 5: site: 0 to 7 (a wall is built)", 0, 7, INDEX, (p, v) -> p.setWall(v, true));
        range("Promise 5: site: 0 to 7 (a wall is removed)", Places::full, 0, 7, INDEX, (p, v) -> p.setWall(v, false));
    }

    private static void promise6() {
        range("Promise 6: speed: 1 to 20", 1, 20, ARGUMENT, (p, v) -> p.addTool(v));
    }

    private static void promise7() {
        range("Promise 7: tool: number of a tool (1)", 0, 0, INDEX, (p, v) -> p.carve(v, 3, 0, 1));
        range("Promise 7: tool: number of a tool (5)", Places::full, 0, 4, INDEX, (p, v) -> p.carve(v, 3, 0, 1));
        range("Promise 7: site: 0 to 7", Places::full, 0, 7, INDEX, (p, v) -> p.carve(0, v, 0, 1));
        range("Promise 7: level: a level, 0 to 5", Places::full, 0, 5, ARGUMENT, (p, v) -> p.carve(0, 3, v, 1));
        range("Promise 7: units: 1 to 100", Places::full, 1, 100, ARGUMENT, (p, v) -> p.carve(0, 3, 0, v));
    }

    private static void promise10() {
        range("Promise 10: first: a site, 0 to 7", 0, 7, ARGUMENT, (p, v) -> p.ballot(v, -1, -1));
        range("Promise 10: second: a site, or NONE", -1, 7, ARGUMENT, (p, v) -> p.ballot(v == 0 ? 2 : 0, v, -1));
        range("Promise 10: third: a site, or NONE", -1, 7, ARGUMENT, (p, v) -> p.ballot(v == 0 ? 2 : 0, 1, v == 1 ? 3 : v));
        range("Promise 10: third: a site, or NONE (where second is NONE)", -1, -1, ARGUMENT, (p, v) -> p.ballot(0, -1, v));
    }

    private static void promise12() {
        range("Promise 12: site: 0 to 7", 0, 7, INDEX, (p, v) -> p.block(v, 0, 0));
        range("Promise 12: level: a level, 0 to 5", 0, 5, ARGUMENT, (p, v) -> p.block(3, v, 0));
        range("Promise 12: level: a level, 0 to 5 (without sculptures)", SnowSites::new, 0, 5, ARGUMENT,
            (p, v) -> p.block(3, v, 2));
        range("Promise 12: what: 0 to 2", 0, 2, ARGUMENT, (p, v) -> p.block(3, 0, v));
        range("Promise 12: what: 0 to 2 (without a block)", 0, 2, ARGUMENT, (p, v) -> p.block(3, 5, v));
    }

    private static void promise13() {
        range("Promise 13: site: 0 to 7", 0, 7, INDEX, (p, v) -> p.site(v, 0));
        range("Promise 13: what: 0 to 4", 0, 4, ARGUMENT, (p, v) -> p.site(3, v));
    }

    private static void promise14() {
        range("Promise 14: tool: number of a tool (1)", 0, 0, INDEX, (p, v) -> p.tool(v, 0));
        range("Promise 14: tool: number of a tool (5)", Places::full, 0, 4, INDEX, (p, v) -> p.tool(v, 2));
        range("Promise 14: what: 0 to 2", 0, 2, ARGUMENT, (p, v) -> p.tool(0, v));
    }

    private static void promise15() {
        range("Promise 15: what: 0 to 15", 0, 15, ARGUMENT, (p, v) -> p.whole(v));
        range("Promise 15: what: 0 to 15 (new object)", SnowSites::new, 0, 15, ARGUMENT, (p, v) -> p.whole(v));
    }

    private static void promise17() {
        range("Promise 17: round: 0 for the first one, and so on", 0, MOST, ARGUMENT, (p, v) -> p.votes(v, 3));
        range("Promise 17: site: 0 to 7", 0, 7, INDEX, (p, v) -> p.votes(0, v));
        range("Promise 17: site: 0 to 7 (where there is no such round)", SnowSites::new, 0, 7, INDEX, (p, v) -> p.votes(0, v));
    }

    private static void promise19() {
        range("Promise 19: tool: number of a tool (1)", 0, 0, INDEX, (p, v) -> p.reason(v, 3, 0, 1));
        range("Promise 19: tool: number of a tool (5)", Places::full, 0, 4, INDEX, (p, v) -> p.reason(v, 3, 0, 1));
        range("Promise 19: site: 0 to 7", 0, 7, INDEX, (p, v) -> p.reason(0, v, 0, 1));
        range("Promise 19: level: a level, 0 to 5", 0, 5, ARGUMENT, (p, v) -> p.reason(0, 3, v, 1));
        range("Promise 19: units: 1 to 100", 1, 100, ARGUMENT, (p, v) -> p.reason(0, 3, 0, v));
    }

    private static void promise20() {
        range("Promise 20: site: 0 to 7", 0, 7, INDEX, (p, v) -> p.volumeIn(v, 48));
        range("Promise 20: hours: 0 to 48", 0, 48, ARGUMENT, (p, v) -> p.volumeIn(3, v));
        range("Promise 20: hours: 0 to 48 (without sculptures)", SnowSites::new, 0, 48, ARGUMENT, (p, v) -> p.volumeIn(3, v));
    }

    private static void promise21() {
        range("Promise 21: site: 0 to 7", 0, 7, INDEX, (p, v) -> p.goneIn(v));
        range("Promise 21: site: 0 to 7 (without sculptures)", SnowSites::new, 0, 7, INDEX, (p, v) -> p.goneIn(v));
    }

    private static void promise23() {
        range("Promise 23: tool: number of a tool (1)", 0, 0, INDEX, (p, v) -> p.minutesFor(v, 1));
        range("Promise 23: tool: number of a tool (5)", Places::full, 0, 4, INDEX, (p, v) -> p.minutesFor(v, 1));
        range("Promise 23: units: 0 to 9999", 0, 9999, ARGUMENT, (p, v) -> p.minutesFor(0, v));
    }

    private static void promise24() {
        range("Promise 24: value: 0 to 127", 0, 127, ARGUMENT, (p, v) -> p.type(v));
        range("Promise 24: value: 0 to 127 (behind other bytes)", Places::busy, 0, 127, ARGUMENT, (p, v) -> p.type(v));
    }
}
