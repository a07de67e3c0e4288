/** Promises 12 to 15: values of blocks, sites, tools and the whole. */
public final class ValueTests {
    private ValueTests() {
    }

    public static void main(String[] args) {
        promise12Block();
        promise12Faces();
        promise13Site();
        promise14Tool();
        promise15Whole();
        Checks.finish();
    }

    private static void promise12Block() {
        SnowSites place = Checks.placeWith(new int[] {1, 2, 0, 1});
        place.addTool(20);
        place.carve(0, 1, 1, 40);
        int[] kinds = {2, 0, 1};
        int[] volumes = {100, 60, 100};
        for (int level = 0; level < 6; level++) {
            Checks.is("kind at " + level, place.block(1, level, 0), level < 3 ? kinds[level] : -1);
            Checks.is("volume at " + level, place.block(1, level, 1), level < 3 ? volumes[level] : -1);
        }
        Checks.noIndex("site -1", place, () -> place.block(-1, 0, 0));
        Checks.noIndex("site 8", place, () -> place.block(8, 0, 0));
        Checks.noIndex("no site before bad level", place, () -> place.block(8, 6, 3));
        Checks.badArgument("level -1", place, () -> place.block(1, -1, 0));
        Checks.badArgument("level 6", place, () -> place.block(1, 6, 0));
        Checks.badArgument("what -1", place, () -> place.block(1, 0, -1));
        Checks.badArgument("what 3", place, () -> place.block(1, 0, 3));
        Checks.badArgument("bad what where there is no block", place, () -> place.block(0, 5, 3));
    }

    private static void promise12Faces() {
        SnowSites place = Checks.placeWith(new int[] {0, 0, 0}, new int[] {1, 0}, new int[] {7, 0});
        place.setWall(1, true);
        int[][] due = {{0, 2, 2, 2}, {1, 2, 1, 2}, {1, 2, 1, 2}};
        for (int hour = 0; hour < 12; hour++) {
            int side = hour / 4;
            Checks.is("below on 0 in hour " + hour, place.block(0, 0, 2), due[side][0]);
            Checks.is("top of 0 in hour " + hour, place.block(0, 1, 2), due[side][1]);
            Checks.is("behind the wall in hour " + hour, place.block(1, 0, 2), due[side][2]);
            Checks.is("on 7 in hour " + hour, place.block(7, 0, 2), due[side][3]);
            Checks.is("no block in hour " + hour, place.block(1, 1, 2), SnowSites.NONE);
            place.hour(true);
        }
    }

    private static void promise13Site() {
        SnowSites place = Checks.placeWith(new int[] {6, 0, 1});
        place.addTool(20);
        place.setWall(6, true);
        place.carve(0, 6, 0, 7);
        place.hour(false);
        int[] due = {2, 200 - 7 - 6 - 8, 1, 7, 14};
        for (int what = 0; what < 5; what++) {
            Checks.is("site 6 value " + what, place.site(6, what), due[what]);
            Checks.is("site 5 value " + what, place.site(5, what), 0);
        }
        Checks.noIndex("site -1", place, () -> place.site(-1, 0));
        Checks.noIndex("site 8", place, () -> place.site(8, 0));
        Checks.noIndex("no site before bad what", place, () -> place.site(8, 5));
        Checks.badArgument("what -1", place, () -> place.site(0, -1));
        Checks.badArgument("what 5", place, () -> place.site(0, 5));
    }

    private static void promise14Tool() {
        SnowSites place = Checks.placeWith(new int[] {0, 0});
        Checks.noIndex("no tool", place, () -> place.tool(0, 0));
        place.addTool(3);
        place.addTool(4);
        place.carve(1, 0, 0, 9);
        int[] due = {4, 57, 3};
        int[] dueOfOther = {3, 60, 0};
        for (int what = 0; what < 3; what++) {
            Checks.is("tool 1 value " + what, place.tool(1, what), due[what]);
            Checks.is("tool 0 value " + what, place.tool(0, what), dueOfOther[what]);
        }
        Checks.noIndex("tool -1", place, () -> place.tool(-1, 0));
        Checks.noIndex("tool 2", place, () -> place.tool(2, 0));
        Checks.noIndex("no tool before bad what", place, () -> place.tool(2, 3));
        Checks.badArgument("what -1", place, () -> place.tool(0, -1));
        Checks.badArgument("what 3", place, () -> place.tool(0, 3));
    }

    private static void promise15Whole() {
        SnowSites place = Checks.placeWith(new int[] {1, 0, 1}, new int[] {4, 1});
        place.addSnow(500);
        place.addTool(10);
        place.carve(0, 1, 0, 30);
        place.recycle();
        place.carve(0, 1, 0, 20);
        place.setWall(2, true);
        place.setWall(3, true);
        place.ballot(1, -1, -1);
        for (int i = 0; i < 13; i++) {
            place.hour(true);
        }
        place.hour(false);
        Checks.typeAll(place, "snow");
        // Hour 1: the loose block has its side in the sun, both pressed ones their side and top.
        int[] due = {530, 29, 28, 30, 90, 2, 250 - 22, 20, 22, 30, 1, 2, 2, 1, 1, 4};
        for (int what = 0; what < 16; what++) {
            Checks.is("whole " + what, place.whole(what), due[what]);
        }
        SnowSites ends = Checks.placeWith(new int[] {0, 2}, new int[] {7, 0, 1});
        Checks.is("sculptures on the first and the last site", ends.whole(5), 2);
        Checks.is("their volumes", ends.whole(6), 300);
        Checks.badArgument("what -1", place, () -> place.whole(-1));
        Checks.badArgument("what 16", place, () -> place.whole(16));
        Checks.badArgument("what most", place, () -> place.whole(Integer.MAX_VALUE));
    }
}
