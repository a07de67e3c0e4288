/**
 * "Snow that adds up": long runs of calls, the same each time; after each call no unit of snow has
 * come from nowhere or got lost, the values of the whole are the sums of their parts, and all of
 * them are within the bounds that the document names.
 */
public final class AddsUpTests {
    private static final int RUNS = 300;
    private static final int CALLS = 512;
    private static final String[] TEXTS = {"snow 700;", "snow 250;press 0 2;stack 1 0;", "press 2 3;stack 4 2;stack 4 2;snow 90;",
        "carve 0 4 0 33;again;snow 5;", "sun 3;cloud 2;snow 11;sun 24;snow 1;", "wall 2;wall 9;snow 500;", "snow 8;snow 9999;snow 1;",
        "carve 0 1 0 9;carve 0 1 0 9;carve 0 1 9 9;snow 3;"};

    private static long seed = 1;

    private SnowSites place = new SnowSites();
    private int added = 0;
    private final int[] addedBefore = new int[4];
    private int saved = 0;

    private AddsUpTests() {
    }

    public static void main(String[] args) {
        for (int run = 0; run < RUNS; run++) {
            seed = 7919L * run + 3;
            new AddsUpTests().play();
        }
        Checks.finish();
    }

    private static int below(int bound) {
        seed = seed * 6364136223846793005L + 1442695040888963407L;
        return (int) Math.floorMod(seed >>> 33, (long) bound);
    }

    private void play() {
        for (int call = 0; call < CALLS; call++) {
            step();
            Checks.sentence("snow that adds up");
            snowAddsUp();
            blocksAddUp();
            sitesAddUp();
            Checks.sentence("(0 to 9999 units), (0 to 50 each), a stack of 1 to 6 blocks, 60 at first, The hours of a day are 0 to 11");
            allWithinBounds();
        }
    }

    private void save() {
        if (saved == addedBefore.length) {
            System.arraycopy(addedBefore, 1, addedBefore, 0, addedBefore.length - 1);
            saved--;
        }
        addedBefore[saved++] = added;
    }

    private void step() {
        switch (below(14)) {
            case 0:
                change(p -> p.addSnow(1 + below(2500)), true);
                break;
            case 1:
                change(p -> p.press(below(3), 1 + below(6)), false);
                break;
            case 2:
            case 3:
            case 4:
                change(p -> p.stack(below(8), below(3)), false);
                break;
            case 5:
                change(p -> p.setWall(below(8), below(2) == 0), false);
                break;
            case 6:
                change(p -> p.addTool(1 + below(20)), false);
                break;
            case 7:
            case 8:
            case 9:
                change(p -> p.carve(below(2), below(8), below(3), 1 + below(100)), false);
                break;
            case 10:
                change(SnowSites::recycle, false);
                break;
            case 11:
                sun();
                break;
            case 12:
                orders(TEXTS[below(TEXTS.length)]);
                break;
            default:
                back();
                break;
        }
    }

    /** An undoable call; a refused one changes nothing and saves nothing. */
    private void change(Twins.Call call, boolean addsSnow) {
        int before = place.whole(0);
        String end = Twins.endOf(call, place);
        if (!end.endsWith("Exception")) {
            save();
            added += addsSnow ? Integer.parseInt(end) - before : 0;
        }
    }

    private void sun() {
        Checks.sentence("each block melts: by its rate for each of its faces that is in the sun, but not more than its volume");
        int due = 0;
        int[] later = new int[8];
        for (int site = 0; site < 8; site++) {
            later[site] = place.volumeIn(site, 1);
            for (int level = 0; level < place.site(site, 0); level++) {
                int rate = new int[] {6, 4, 2}[place.block(site, level, 0)];
                due += Math.min(place.block(site, level, 1), rate * place.block(site, level, 2));
            }
        }
        save();
        Checks.is("melts in the hour", place.hour(false), due);
        for (int site = 0; site < 8; site++) {
            Checks.is("as volumeIn told for site " + site, place.site(site, 1), later[site]);
        }
    }

    private void orders(String text) {
        Checks.typeAll(place, text);
        save();
        int done = place.runOrders();
        String[] each = text.split(";");
        for (int i = 0; i < done; i++) {
            added += each[i].startsWith("snow ") ? Integer.parseInt(each[i].substring(5)) : 0;
        }
    }

    private void back() {
        if (saved > 0) {
            saved--;
            added = addedBefore[saved];
            Checks.is("states left", place.undo(), saved);
        }
    }

    private int stock() {
        return place.whole(1) + place.whole(2) + place.whole(3);
    }

    private int ofAllSites(int what) {
        int sum = 0;
        for (int site = 0; site < 8; site++) {
            sum += place.site(site, what);
        }
        return sum;
    }

    private void snowAddsUp() {
        int somewhere = place.whole(0) + 100 * stock() + place.whole(6) + place.whole(7) + place.whole(8);
        Checks.is("snow in the store, the stock, the sculptures, the offcuts and the water", somewhere, added);
    }

    private void blocksAddUp() {
        int ofBlocks = 100 * stock() + place.whole(6) + ofAllSites(3) + place.whole(8);
        Checks.is("what the blocks were made of", ofBlocks, 100 * place.whole(4));
        Checks.is("what was carved off", place.whole(7) + place.whole(9), ofAllSites(3));
    }

    private void sitesAddUp() {
        int sculptures = 0;
        for (int site = 0; site < 8; site++) {
            int volume = 0;
            for (int level = 0; level < 6; level++) {
                boolean there = level < place.site(site, 0);
                int own = place.block(site, level, 1);
                Checks.is("a volume of 1 to 100, or NONE", there ? own >= 1 && own <= 100 ? 1 : 0 : own, there ? 1 : -1);
                volume += there ? own : 0;
            }
            Checks.is("sum of the volumes", place.site(site, 1), volume);
            sculptures += place.site(site, 0) > 0 ? 1 : 0;
        }
        Checks.is("sculptures", place.whole(5), sculptures);
        Checks.is("all volumes", place.whole(6), ofAllSites(1));
        Checks.is("walls", place.whole(11), ofAllSites(2));
        Checks.is("melted", place.whole(8), ofAllSites(4));
    }

    private void within(String what, int value, int least, int most) {
        Checks.is(what + ", which is " + value, value >= least && value <= most ? 1 : 0, 1);
    }

    private void allWithinBounds() {
        within("snow", place.whole(0), 0, 9999);
        for (int kind = 0; kind < 3; kind++) {
            within("stock", place.whole(1 + kind), 0, 50);
        }
        for (int site = 0; site < 8; site++) {
            within("blocks", place.site(site, 0), 0, 6);
        }
        for (int tool = 0; tool < place.whole(10); tool++) {
            within("speed", place.tool(tool, 0), 1, 20);
            within("minutes left", place.tool(tool, 1), 0, 60);
        }
        within("tools", place.whole(10), 0, 5);
        within("hour", place.whole(12), 0, 11);
        within("offcuts", place.whole(7), 0, Integer.MAX_VALUE);
    }
}
