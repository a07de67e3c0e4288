/** The document's terms "SNOW AND BLOCKS" and "TOOLS": both sides of each bound that they name. */
public final class TermsOfSnowTests {
    private TermsOfSnowTests() {
    }

    public static void main(String[] args) {
        storeHas0To9999();
        threeKinds();
        blockIsMadeOf100();
        blockHas100AtFirst();
        stockHas0To50();
        untilTheyAreStacked();
        eightSites();
        fromWestToEast();
        stackOf1To6();
        levelsFromTheBottom();
        wallOrNone();
        blockWithVolume0();
        thoseAboveComeDown();
        severalComeDownAtOnce();
        sculptureWithoutBlocks();
        carvedAndMelted();
        atMostFiveTools();
        speed1To20();
        sixtyMinutesAtFirst();
        roundedUp();
        reasonNoSculpture();
        reasonNoLevel();
        reasonFewerUnits();
        reasonFewerMinutes();
        firstReasonThatApplies();
        Checks.finish();
    }

    private static void storeHas0To9999() {
        Checks.sentence("The store has snow (0 to 9999 units; 0 at first).");
        Checks.is("at first", new SnowSites().whole(0), 0);
        SnowSites place = Places.withSnow(9998);
        Checks.is("the last unit", place.addSnow(1), 9999);
        Checks.is("full", place.whole(0), 9999);
        Twins.badState("1 into 9999", () -> Places.withSnow(9999), p -> p.addSnow(1));
        Twins.badState("2 into 9998", () -> Places.withSnow(9998), p -> p.addSnow(2));
        Twins.badState("9999 into 1", () -> Places.withSnow(1), p -> p.addSnow(9999));
        SnowSites emptied = Places.withSnow(100);
        emptied.press(1, 1);
        Checks.is("down to nothing", emptied.whole(0), 0);
        Twins.badState("a block of nothing", SnowSites::new, p -> p.press(1, 1));
    }

    private static void threeKinds() {
        Checks.sentence("There are three kinds of blocks: 0 loose, 1 pressed, 2 ice.");
        for (int kind = 0; kind < 3; kind++) {
            SnowSites place = Places.withStock(kind, 1);
            Checks.is("stock of kind " + kind, place.whole(1 + kind), 1);
            place.stack(4, kind);
            Checks.is("kind on the site", place.block(4, 0, 0), kind);
        }
        for (int kind : new int[] {-1, 3}) {
            Twins.badArgument("press kind " + kind, Places::busy, p -> p.press(kind, 1));
            Twins.badArgument("stack kind " + kind, Places::busy, p -> p.stack(0, kind));
        }
    }

    private static void blockIsMadeOf100() {
        Checks.sentence("A block is made of 100 units of snow");
        for (int blocks : new int[] {1, 2, 49, 50}) {
            Twins.badState(blocks + " blocks, a unit too few", () -> Places.withSnow(100 * blocks - 1),
                p -> p.press(0, blocks));
            SnowSites just = Places.withSnow(100 * blocks);
            Checks.is(blocks + " blocks, just enough", just.press(0, blocks), blocks);
            Checks.is("no unit is left", just.whole(0), 0);
            SnowSites more = Places.withSnow(100 * blocks + 1);
            Checks.is(blocks + " blocks, a unit more", more.press(0, blocks), blocks);
            Checks.is("a unit is left", more.whole(0), 1);
        }
    }

    private static void blockHas100AtFirst() {
        Checks.sentence("it has a volume, 100 at first.");
        for (int kind = 0; kind < 3; kind++) {
            SnowSites place = Places.withStock(kind, 6);
            for (int level = 0; level < 6; level++) {
                place.stack(7, kind);
                Checks.is("volume on level " + level, place.block(7, level, 1), 100);
            }
            Checks.is("of all", place.whole(6), 600);
        }
        SnowSites again = Places.withStock(0, 2);
        again.stack(3, 0);
        Places.carveTo(again, 3, 0, 0);
        again.stack(3, 0);
        Checks.is("where one was carved away", again.block(3, 0, 1), 100);
    }

    private static void stockHas0To50() {
        Checks.sentence("Blocks that were made are in the stock of their kind (0 to 50 each)");
        for (int kind = 0; kind < 3; kind++) {
            int k = kind;
            SnowSites place = Places.withStock(k, 49);
            place.addSnow(200);
            Checks.is("the fiftieth of kind " + k, place.press(k, 1), 50);
            Checks.is("in the stock", place.whole(1 + k), 50);
            Checks.is("another kind has a stock of its own", place.press((k + 1) % 3, 1), 1);
            Twins.badState("the fifty-first of kind " + k, () -> snowy(Places.withStock(k, 50)), p -> p.press(k, 1));
            Twins.badState("49 and 2 of kind " + k, () -> snowy(Places.withStock(k, 49)), p -> p.press(k, 2));
            Twins.badState("1 and 50 of kind " + k, () -> snowy(Places.withStock(k, 1)), p -> p.press(k, 50));
            Checks.is("50 at once", snowy(new SnowSites()).press(k, 50), 50);
        }
    }

    private static SnowSites snowy(SnowSites place) {
        place.addSnow(9999);
        return place;
    }

    private static void untilTheyAreStacked() {
        Checks.sentence("Blocks that were made are in the stock of their kind until they are stacked.");
        for (int kind = 0; kind < 3; kind++) {
            int k = kind;
            SnowSites place = snowy(Places.withStock(k, 50));
            place.stack(0, k);
            Checks.is("49 are left of kind " + k, place.whole(1 + k), 49);
            Checks.is("room for one", place.press(k, 1), 50);
            SnowSites last = Places.withStock(k, 1);
            Checks.is("the last one", last.stack(6, k), 0);
            Checks.is("none is left of kind " + k, last.whole(1 + k), 0);
            Twins.badState("one more of kind " + k, () -> Places.withStock((k + 1) % 3, 5), p -> p.stack(6, k));
        }
    }

    private static void eightSites() {
        Checks.sentence("There are 8 sites, numbered from 0 in the west to 7 in the east.");
        for (int site : new int[] {0, 7}) {
            SnowSites place = Places.withStock(2, 1);
            Checks.is("a block on site " + site, place.stack(site, 2), 0);
            Checks.is("blocks there", place.site(site, 0), 1);
            Checks.is("a wall there", place.setWall(site, true), 1);
            Checks.is("a ballot for it", place.ballot(site, -1, -1), 1);
            Checks.is("its winner", place.winner(), site);
        }
        for (int site : new int[] {-1, 8}) {
            Twins.noIndex("a block on site " + site, Places::busy, p -> p.stack(site, 2));
            Twins.noIndex("a wall at site " + site, Places::busy, p -> p.setWall(site, true));
            Twins.noIndex("values of site " + site, Places::busy, p -> p.site(site, 0));
            Twins.badArgument("a ballot for site " + site, Places::busy, p -> p.ballot(site, -1, -1));
        }
    }

    private static void fromWestToEast() {
        Checks.sentence("numbered from 0 in the west to 7 in the east.");
        SnowSites place = Checks.placeWith(new int[] {0, 1}, new int[] {1, 1});
        Checks.is("sun in the east: 0 is shaded by 1", place.block(0, 0, 2), 1);
        Checks.is("sun in the east: 1 is not by 0", place.block(1, 0, 2), 2);
        Places.passTo(place, 8);
        Checks.is("sun in the west: 0 is not shaded by 1", place.block(0, 0, 2), 2);
        Checks.is("sun in the west: 1 is by 0", place.block(1, 0, 2), 1);
    }

    private static void stackOf1To6() {
        Checks.sentence("a sculpture is a stack of 1 to 6 blocks");
        SnowSites place = Places.withStock(1, 7);
        Checks.is("none at first", place.whole(5), 0);
        for (int blocks = 1; blocks <= 6; blocks++) {
            place.stack(5, 1);
            Checks.is("blocks", place.site(5, 0), blocks);
            Checks.is("sculptures", place.whole(5), 1);
        }
        Twins.badState("a seventh block", TermsOfSnowTests::sixOnFive, p -> p.stack(5, 1));
        SnowSites carved = sixOnFive();
        Places.carveTo(carved, 5, 3, 0);
        Checks.is("room for one again", carved.stack(5, 1), 5);
    }

    private static SnowSites sixOnFive() {
        return Checks.placeWith(new int[] {5, 0, 1, 2, 2, 1, 0});
    }

    private static void levelsFromTheBottom() {
        Checks.sentence("whose levels are numbered from 0 at the bottom.");
        SnowSites place = sixOnFive();
        int[] kinds = {0, 1, 2, 2, 1, 0};
        for (int level = 0; level < 6; level++) {
            Checks.is("kind on level " + level, place.block(5, level, 0), kinds[level]);
        }
        Checks.is("the highest one alone has its top in the sun", place.block(5, 5, 2), 2);
        Checks.is("the one below it", place.block(5, 4, 2), 1);
        Checks.is("the lowest one", place.block(5, 0, 2), 1);
    }

    private static void wallOrNone() {
        Checks.sentence("A site has a wall in the south, or none.");
        SnowSites place = new SnowSites();
        for (int site = 0; site < 8; site++) {
            Checks.is("none at first", place.site(site, 2), 0);
            Checks.is("walls", place.setWall(site, true), site + 1);
            Checks.is("one and no more", place.setWall(site, true), site + 1);
            Checks.is("there is one", place.site(site, 2), 1);
        }
        for (int site = 7; site >= 0; site--) {
            Checks.is("walls", place.setWall(site, false), site);
            Checks.is("none and no fewer", place.setWall(site, false), site);
        }
    }

    private static void blockWithVolume0() {
        Checks.sentence("A block whose volume becomes 0 is gone");
        SnowSites place = Checks.placeWith(new int[] {1, 0, 0});
        place.addTool(20);
        Checks.is("99 units", place.carve(0, 1, 0, 99), 1);
        Checks.is("a block of one unit stands", place.site(1, 0), 2);
        Checks.is("the last unit", place.carve(0, 1, 0, 1), 0);
        Checks.is("it is gone", place.site(1, 0), 1);
        Checks.is("the other one is whole", place.block(1, 0, 1), 100);
        Checks.is("100 units at once", place.carve(0, 1, 0, 100), 0);
        Checks.is("no block", place.block(1, 0, 1), SnowSites.NONE);
    }

    private static void thoseAboveComeDown() {
        Checks.sentence("those above it come down by one level");
        int[] kinds = {0, 1, 2, 2, 1, 0};
        for (int gone = 0; gone < 6; gone++) {
            SnowSites place = sixOnFive();
            for (int level = 0; level < 6; level++) {
                Places.carveTo(place, 5, level, 90 - level);
            }
            place.hour(true);
            Places.carveTo(place, 5, gone, 0);
            for (int level = 0; level < 5; level++) {
                int was = level < gone ? level : level + 1;
                Checks.is("kind on " + level + " without " + gone, place.block(5, level, 0), kinds[was]);
                Checks.is("volume on " + level + " without " + gone, place.block(5, level, 1), 90 - was);
            }
            Checks.is("nothing on level 5", place.block(5, 5, 0), SnowSites.NONE);
        }
    }

    /** An hour of sun from the east takes the levels 0, 2, 3 and 5, of which each has one unit left. */
    private static void severalComeDownAtOnce() {
        Checks.sentence("A block whose volume becomes 0 is gone; those above it come down by one level");
        SnowSites place = sixOnFive();
        for (int level : new int[] {0, 2, 3, 5}) {
            Places.carveTo(place, 5, level, 1);
        }
        Checks.is("melted", place.hour(false), 4 + 4 + 4);
        Checks.is("blocks", place.site(5, 0), 2);
        for (int level = 0; level < 2; level++) {
            Checks.is("kind", place.block(5, level, 0), 1);
            Checks.is("volume", place.block(5, level, 1), 96);
        }
    }

    private static void sculptureWithoutBlocks() {
        Checks.sentence("a sculpture without blocks is gone, too.");
        SnowSites carved = Checks.placeWith(new int[] {0, 0}, new int[] {1, 1});
        Places.carveTo(carved, 1, 0, 0);
        Checks.is("sculptures, one carved away", carved.whole(5), 1);
        Checks.is("it shades no more", carved.block(0, 0, 2), 2);
        Checks.is("it stands no more", carved.votes(0, 1), SnowSites.NONE);
        Checks.is("it can't be carved", carved.reason(0, 1, 0, 1), 1);
        SnowSites melted = Checks.placeWith(new int[] {0, 0}, new int[] {1, 1});
        Places.carveTo(melted, 1, 0, 8);
        Checks.is("melted", melted.hour(false), 6 + 8);
        Checks.is("sculptures, one melted away", melted.whole(5), 1);
        Checks.is("no volume", melted.site(1, 1), 0);
        Checks.is("hours until it is gone", melted.goneIn(1), SnowSites.NONE);
    }

    private static void carvedAndMelted() {
        Checks.sentence("What is carved off becomes offcuts; what melts is melted.");
        SnowSites place = Checks.placeWith(new int[] {6, 0});
        Places.carveTo(place, 6, 0, 87);
        Checks.is("offcuts", place.whole(7), 13);
        Checks.is("melted, before the sun", place.whole(8), 0);
        place.hour(false);
        Checks.is("offcuts after the sun", place.whole(7), 13);
        Checks.is("melted", place.whole(8), 12);
        Checks.is("volume", place.whole(6), 75);
    }

    private static void atMostFiveTools() {
        Checks.sentence("There are at most 5 tools, numbered from 0.");
        SnowSites place = new SnowSites();
        for (int tool = 0; tool < 5; tool++) {
            int t = tool;
            Twins.noIndex("not there yet: tool " + t, () -> Places.withTools(t), p -> p.tool(t, 0));
            Checks.is("number", place.addTool(20 - tool), tool);
            Checks.is("speed", place.tool(tool, 0), 20 - tool);
        }
        Twins.badState("a sixth", () -> Places.withTools(5), p -> p.addTool(20));
        Twins.noIndex("tool 5", () -> Places.withTools(5), p -> p.tool(5, 0));
        Twins.noIndex("tool -1", () -> Places.withTools(5), p -> p.tool(-1, 0));
    }

    private static void speed1To20() {
        Checks.sentence("A tool has a speed (1 to 20 units for a minute)");
        SnowSites place = new SnowSites();
        place.addTool(1);
        place.addTool(20);
        Checks.is("the slowest one", place.tool(0, 0), 1);
        Checks.is("its minutes for 60 units", place.minutesFor(0, 60), 60);
        Checks.is("the fastest one", place.tool(1, 0), 20);
        Checks.is("its minutes for 60 units", place.minutesFor(1, 60), 3);
        Twins.badArgument("speed 0", Places::busy, p -> p.addTool(0));
        Twins.badArgument("speed 21", Places::busy, p -> p.addTool(21));
    }

    private static void sixtyMinutesAtFirst() {
        Checks.sentence("minutes left in this hour (60 at first).");
        SnowSites place = Places.atHour(5, new int[] {2, 0});
        place.addTool(1);
        place.carve(0, 2, 0, 59);
        place.addTool(1);
        Checks.is("the first one used 59", place.tool(0, 1), 1);
        Checks.is("the new one used none", place.tool(1, 1), 60);
        Checks.is("a minute is enough for a unit", place.reason(0, 2, 0, 1), 0);
        Checks.is("but not for two", place.reason(0, 2, 0, 2), 4);
    }

    private static void roundedUp() {
        Checks.sentence("To carve units with a tool takes units / speed minutes, rounded up.");
        for (int speed = 1; speed <= 20; speed++) {
            SnowSites place = Checks.placeWith(new int[] {2, 0});
            place.addTool(speed);
            Checks.is("less than its speed", place.minutesFor(0, speed - 1), speed == 1 ? 0 : 1);
            Checks.is("its speed", place.minutesFor(0, speed), 1);
            Checks.is("one more than its speed", place.minutesFor(0, speed + 1), 2);
            Checks.is("twice its speed", place.minutesFor(0, 2 * speed), 2);
            Checks.is("one more than that", place.minutesFor(0, 2 * speed + 1), 3);
            place.carve(0, 2, 0, speed + 1);
            Checks.is("minutes that are left", place.tool(0, 1), 58);
            Checks.is("minutes that were used", place.tool(0, 2), 2);
        }
    }

    /** Blocks of 100 and 50 units on site 2; the tool 0 has no minute left, the tool 1 all. */
    private static SnowSites worn() {
        SnowSites place = Checks.placeWith(new int[] {2, 0, 1}, new int[] {3, 0});
        place.addTool(1);
        place.addTool(20);
        place.carve(0, 2, 1, 50);
        place.carve(0, 3, 0, 10);
        return place;
    }

    private static void reasonNoSculpture() {
        Checks.sentence("It cannot be done for the first reason that applies: 1 there is no sculpture on the site");
        Twins.answers("reason", TermsOfSnowTests::worn, p -> p.reason(1, 4, 0, 1), 1);
        Twins.badState("carve", TermsOfSnowTests::worn, p -> p.carve(1, 4, 0, 1));
        Twins.answers("with one it can be done", TermsOfSnowTests::worn, p -> p.reason(1, 3, 0, 1), 0);
    }

    private static void reasonNoLevel() {
        Checks.sentence("2 it has no such level");
        Twins.answers("level 2 of 2", TermsOfSnowTests::worn, p -> p.reason(1, 2, 2, 1), 2);
        Twins.answers("level 5 of 2", TermsOfSnowTests::worn, p -> p.reason(1, 2, 5, 1), 2);
        Twins.badState("carve", TermsOfSnowTests::worn, p -> p.carve(1, 2, 2, 1));
        Twins.answers("level 1 of 2", TermsOfSnowTests::worn, p -> p.reason(1, 2, 1, 1), 0);
        Twins.answers("level 5 of 6", () -> tooled(sixOnFive()), p -> p.reason(0, 5, 5, 1), 0);
    }

    private static SnowSites tooled(SnowSites place) {
        place.addTool(20);
        return place;
    }

    private static void reasonFewerUnits() {
        Checks.sentence("3 the block has fewer units");
        Twins.answers("51 of 50", TermsOfSnowTests::worn, p -> p.reason(1, 2, 1, 51), 3);
        Twins.badState("carve", TermsOfSnowTests::worn, p -> p.carve(1, 2, 1, 51));
        Twins.answers("50 of 50", TermsOfSnowTests::worn, p -> p.reason(1, 2, 1, 50), 0);
        Twins.answers("100 of 100", TermsOfSnowTests::worn, p -> p.reason(1, 2, 0, 100), 0);
    }

    private static void reasonFewerMinutes() {
        Checks.sentence("4 the tool has fewer minutes left.");
        Twins.answers("no minute left", TermsOfSnowTests::worn, p -> p.reason(0, 2, 0, 1), 4);
        Twins.badState("carve", TermsOfSnowTests::worn, p -> p.carve(0, 2, 0, 1));
        SnowSites place = Checks.placeWith(new int[] {2, 0});
        place.addTool(3);
        place.carve(0, 2, 0, 99);
        place.stack(2, 0);
        Checks.is("27 minutes are left: 81 units", place.reason(0, 2, 1, 81), 0);
        Checks.is("82 units take 28", place.reason(0, 2, 1, 82), 4);
        Checks.is("the last minute", place.carve(0, 2, 1, 81), 19);
        Checks.is("none is left", place.tool(0, 1), 0);
    }

    private static void firstReasonThatApplies() {
        Checks.sentence("It cannot be done for the first reason that applies");
        Twins.answers("1 before 2 to 4", TermsOfSnowTests::worn, p -> p.reason(0, 4, 5, 100), 1);
        Twins.answers("2 before 3 and 4", TermsOfSnowTests::worn, p -> p.reason(0, 2, 2, 100), 2);
        Twins.answers("3 before 4", TermsOfSnowTests::worn, p -> p.reason(0, 2, 1, 51), 3);
        Twins.answers("4 alone", TermsOfSnowTests::worn, p -> p.reason(0, 2, 1, 50), 4);
        Twins.answers("none", TermsOfSnowTests::worn, p -> p.reason(1, 2, 1, 50), 0);
    }
}
