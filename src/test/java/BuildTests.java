/** Promises 1 to 8: a new object, snow, blocks, walls, tools, carving and offcuts. */
public final class BuildTests {
    private BuildTests() {
    }

    public static void main(String[] args) {
        promise1NewObject();
        promise2AddSnow();
        promise3Press();
        promise4Stack();
        promise5SetWall();
        promise6AddTool();
        promise7Carve();
        promise7CarveRefusals();
        promise7GoneBlocks();
        promise8Recycle();
        promise8RecycleIntoAFullStore();
        Checks.finish();
    }

    private static void promise1NewObject() {
        SnowSites place = new SnowSites();
        Checks.is("NONE", SnowSites.NONE, -1);
        for (int what = 0; what < 16; what++) {
            Checks.is("new: whole " + what, place.whole(what), 0);
        }
        for (int site = 0; site < 8; site++) {
            for (int what = 0; what < 5; what++) {
                Checks.is("new: site " + site + " value " + what, place.site(site, what), 0);
            }
            Checks.is("new: block on site " + site, place.block(site, 0, 0), SnowSites.NONE);
        }
        Checks.is("new: rounds", place.rounds(), 0);
        Checks.badState("new: undo", place, () -> place.undo());
        Checks.is("new: empty text", place.runOrders(), 0);
        Checks.is("new: undo of the empty run", place.undo(), 0);
    }

    private static void promise2AddSnow() {
        SnowSites place = new SnowSites();
        Checks.badArgument("addSnow 0", place, () -> place.addSnow(0));
        Checks.badArgument("addSnow -1", place, () -> place.addSnow(-1));
        Checks.badArgument("addSnow least int", place, () -> place.addSnow(Integer.MIN_VALUE));
        Checks.badArgument("addSnow 10000", place, () -> place.addSnow(10000));
        Checks.is("addSnow 1", place.addSnow(1), 1);
        Checks.is("addSnow 9998", place.addSnow(9998), 9999);
        Checks.badState("addSnow 1 to the full store", place, () -> place.addSnow(1));
        Checks.badState("addSnow 9999 to the full store", place, () -> place.addSnow(9999));
        Checks.badArgument("both: argument first", place, () -> place.addSnow(Integer.MAX_VALUE));
        Checks.is("undo", place.undo(), 1);
        Checks.is("snow after undo", place.whole(0), 1);
        Checks.badState("one too many", place, () -> place.addSnow(9999));
    }

    private static void promise3Press() {
        SnowSites place = new SnowSites();
        place.addSnow(9999);
        Checks.badArgument("press kind -1", place, () -> place.press(-1, 1));
        Checks.badArgument("press kind 3", place, () -> place.press(3, 1));
        Checks.badArgument("press 0 blocks", place, () -> place.press(0, 0));
        Checks.badArgument("press 51 blocks", place, () -> place.press(0, 51));
        Checks.badArgument("press most blocks", place, () -> place.press(0, Integer.MAX_VALUE));
        Checks.is("press 1 of 49", place.press(1, 49), 49);
        Checks.badState("press 1 of 2 with 49", place, () -> place.press(1, 2));
        Checks.is("press 1 more", place.press(1, 1), 50);
        Checks.badState("press 1 more of 50", place, () -> place.press(1, 1));
        Checks.is("press 2 of the rest", place.press(2, 49), 49);
        Checks.is("snow that is left", place.whole(0), 99);
        Checks.badState("press with 99 units", place, () -> place.press(0, 1));
        place.addSnow(1);
        Checks.is("press with 100 units", place.press(0, 1), 1);
        Checks.is("snow then", place.whole(0), 0);
        Checks.is("stock 0", place.whole(1), 1);
        Checks.is("stock 1", place.whole(2), 50);
        Checks.is("stock 2", place.whole(3), 49);
        Checks.is("made in all", place.whole(4), 100);
        Checks.badArgument("both: argument first", place, () -> place.press(0, 51));
        place.undo();
        Checks.is("snow after undo", place.whole(0), 100);
        Checks.is("made after undo", place.whole(4), 99);
    }

    private static void promise4Stack() {
        SnowSites place = new SnowSites();
        place.addSnow(800);
        place.press(2, 7);
        Checks.noIndex("stack on -1", place, () -> place.stack(-1, 0));
        Checks.noIndex("stack on 8", place, () -> place.stack(8, 0));
        Checks.noIndex("no site before bad kind", place, () -> place.stack(8, 3));
        Checks.badArgument("stack kind -1", place, () -> place.stack(0, -1));
        Checks.badArgument("stack kind 3", place, () -> place.stack(7, 3));
        Checks.badState("stack kind 0, of which there is none", place, () -> place.stack(0, 0));
        for (int level = 0; level < 6; level++) {
            Checks.is("level", place.stack(7, 2), level);
        }
        Checks.badState("a seventh block", place, () -> place.stack(7, 2));
        Checks.badArgument("bad kind before full sculpture", place, () -> place.stack(7, 3));
        Checks.is("stock after the stacking", place.whole(3), 1);
        Checks.is("on another site", place.stack(0, 2), 0);
        Checks.badState("stock is empty", place, () -> place.stack(0, 2));
        place.undo();
        Checks.is("stock after undo", place.whole(3), 1);
        Checks.is("site after undo", place.site(0, 0), 0);
    }

    private static void promise5SetWall() {
        SnowSites place = new SnowSites();
        Checks.noIndex("wall at -1", place, () -> place.setWall(-1, true));
        Checks.noIndex("wall at 8", place, () -> place.setWall(8, false));
        Checks.is("wall at 0", place.setWall(0, true), 1);
        Checks.is("wall at 7", place.setWall(7, true), 2);
        Checks.is("wall at 7 again", place.setWall(7, true), 2);
        Checks.is("no wall at 0", place.setWall(0, false), 1);
        Checks.is("no wall at 0 again", place.setWall(0, false), 1);
        Checks.is("site 7", place.site(7, 2), 1);
        Checks.is("site 0", place.site(0, 2), 0);
        Checks.is("a call without change is saved, too", place.undo(), 3);
        Checks.is("walls then", place.whole(11), 1);
        place.undo();
        Checks.is("walls after two undos", place.whole(11), 2);
    }

    private static void promise6AddTool() {
        SnowSites place = new SnowSites();
        Checks.badArgument("speed 0", place, () -> place.addTool(0));
        Checks.badArgument("speed 21", place, () -> place.addTool(21));
        for (int tool = 0; tool < 5; tool++) {
            Checks.is("tool", place.addTool(tool == 4 ? 20 : 1), tool);
        }
        Checks.badState("a sixth tool", place, () -> place.addTool(1));
        Checks.badArgument("both: argument first", place, () -> place.addTool(21));
        Checks.is("speed of 4", place.tool(4, 0), 20);
        Checks.is("minutes of 4", place.tool(4, 1), 60);
        Checks.is("used by 4", place.tool(4, 2), 0);
        Checks.is("undo", place.undo(), 3);
        Checks.is("tools after undo", place.whole(10), 4);
        Checks.noIndex("tool 4 after undo", place, () -> place.tool(4, 0));
    }

    private static void promise7Carve() {
        SnowSites place = Checks.placeWith(new int[] {3, 0, 1});
        place.addTool(7);
        Checks.is("carve 1", place.carve(0, 3, 1, 1), 99);
        Checks.is("one unit takes a minute", place.tool(0, 1), 59);
        Checks.is("carve 14", place.carve(0, 3, 0, 14), 86);
        Checks.is("14 units take two", place.tool(0, 1), 57);
        Checks.is("carve 15", place.carve(0, 3, 0, 15), 71);
        Checks.is("15 units take three", place.tool(0, 1), 54);
        Checks.is("used", place.tool(0, 2), 6);
        Checks.is("offcuts", place.whole(7), 30);
        Checks.is("carved on the site", place.site(3, 3), 30);
        Checks.is("volumes", place.site(3, 1), 170);
        Checks.is("undo", place.undo(), 3);
        Checks.is("minutes after undo", place.tool(0, 1), 57);
        Checks.is("used after undo", place.tool(0, 2), 3);
        Checks.is("offcuts after undo", place.whole(7), 15);
        Checks.is("carved after undo", place.site(3, 3), 15);
        Checks.is("volume after undo", place.block(3, 0, 1), 86);
    }

    private static void promise7CarveRefusals() {
        SnowSites place = Checks.placeWith(new int[] {3, 0, 1});
        Checks.noIndex("no tool at all", place, () -> place.carve(0, 3, 0, 1));
        place.addTool(1);
        Checks.noIndex("tool -1", place, () -> place.carve(-1, 3, 0, 1));
        Checks.noIndex("tool 1", place, () -> place.carve(1, 3, 0, 1));
        Checks.noIndex("site -1", place, () -> place.carve(0, -1, 0, 1));
        Checks.noIndex("site 8", place, () -> place.carve(0, 8, 0, 1));
        Checks.noIndex("no site before bad level", place, () -> place.carve(0, 8, 6, 0));
        Checks.badArgument("level -1", place, () -> place.carve(0, 3, -1, 1));
        Checks.badArgument("level 6", place, () -> place.carve(0, 3, 6, 1));
        Checks.badArgument("units 0", place, () -> place.carve(0, 3, 0, 0));
        Checks.badArgument("units 101", place, () -> place.carve(0, 3, 0, 101));
        Checks.badArgument("bad units before no sculpture", place, () -> place.carve(0, 0, 0, 101));
        Checks.badState("no sculpture", place, () -> place.carve(0, 0, 0, 1));
        Checks.badState("no such level", place, () -> place.carve(0, 3, 2, 1));
        Checks.badState("too few minutes", place, () -> place.carve(0, 3, 0, 61));
        Checks.is("all the minutes", place.carve(0, 3, 0, 60), 40);
        Checks.badState("too few units", place, () -> place.carve(0, 3, 0, 41));
        Checks.badState("no minutes", place, () -> place.carve(0, 3, 0, 1));
        Checks.is("minutes", place.tool(0, 1), 0);
    }

    private static void promise7GoneBlocks() {
        SnowSites place = Checks.placeWith(new int[] {2, 0, 1, 2}, new int[] {4, 1});
        place.addTool(20);
        place.carve(0, 2, 2, 10);
        Checks.is("the middle one gone", place.carve(0, 2, 1, 100), 0);
        Checks.is("blocks", place.site(2, 0), 2);
        Checks.is("kind below", place.block(2, 0, 0), 0);
        Checks.is("kind that came down", place.block(2, 1, 0), 2);
        Checks.is("volume that came down", place.block(2, 1, 1), 90);
        Checks.is("nothing above", place.block(2, 2, 0), SnowSites.NONE);
        Checks.is("the only one gone", place.carve(0, 4, 0, 100), 0);
        Checks.is("sculptures", place.whole(5), 1);
        Checks.badState("nothing is left", place, () -> place.carve(0, 4, 0, 1));
        Checks.is("a new one begins at the bottom", place.stack(4, 2), 0);
        Checks.is("its volume", place.block(4, 0, 1), 100);
        Checks.is("the carved units stay in all", place.site(4, 3), 100);
    }

    private static void promise8Recycle() {
        SnowSites place = Checks.placeWith(new int[] {0, 2});
        Checks.is("nothing to put back", place.recycle(), 0);
        place.addTool(20);
        place.carve(0, 0, 0, 33);
        Checks.is("put back", place.recycle(), 33);
        Checks.is("snow", place.whole(0), 33);
        Checks.is("offcuts", place.whole(7), 0);
        Checks.is("put back in all", place.whole(9), 33);
        Checks.is("nothing again", place.recycle(), 0);
        Checks.is("also this was saved", place.undo(), 3);
        Checks.is("put back is still", place.whole(9), 33);
        place.undo();
        Checks.is("offcuts after undo", place.whole(7), 33);
        Checks.is("snow after undo", place.whole(0), 0);
        Checks.is("put back after undo", place.whole(9), 0);
    }

    private static void promise8RecycleIntoAFullStore() {
        SnowSites place = Checks.placeWith(new int[] {0, 2});
        place.addTool(20);
        place.carve(0, 0, 0, 50);
        place.addSnow(9969);
        Checks.is("as many as there is room for", place.recycle(), 30);
        Checks.is("full store", place.whole(0), 9999);
        Checks.is("offcuts that stay", place.whole(7), 20);
        Checks.is("no room", place.recycle(), 0);
        place.press(0, 1);
        Checks.is("room again", place.recycle(), 20);
        Checks.is("in all", place.whole(9), 50);
        Checks.is("carved stays", place.site(0, 3), 50);
    }
}
