/** Promises 19 to 23: questions that change nothing. */
public final class WhatIfTests {
    private WhatIfTests() {
    }

    public static void main(String[] args) {
        promise19Reason();
        promise19Arguments();
        promise20VolumeIn();
        promise21GoneIn();
        promise21LongLived();
        promise22BestWall();
        promise22Ties();
        promise22OneUnit();
        promise23MinutesFor();
        nothingIsChanged();
        Checks.finish();
    }

    private static void promise19Reason() {
        SnowSites place = Checks.placeWith(new int[] {2, 0});
        place.addTool(1);
        Checks.is("it can be done", place.reason(0, 2, 0, 60), 0);
        Checks.is("no sculpture", place.reason(0, 3, 5, 100), 1);
        Checks.is("no such level", place.reason(0, 2, 1, 100), 2);
        Checks.is("fewer minutes", place.reason(0, 2, 0, 61), 4);
        place.carve(0, 2, 0, 60);
        Checks.is("fewer units before fewer minutes", place.reason(0, 2, 0, 41), 3);
        Checks.is("no minutes at all", place.reason(0, 2, 0, 1), 4);
        place.hour(true);
        Checks.is("all of it", place.reason(0, 2, 0, 40), 0);
    }

    private static void promise19Arguments() {
        SnowSites place = Checks.placeWith(new int[] {2, 0});
        Checks.noIndex("no tool", place, () -> place.reason(0, 2, 0, 1));
        place.addTool(1);
        Checks.noIndex("tool -1", place, () -> place.reason(-1, 2, 0, 1));
        Checks.noIndex("tool 1", place, () -> place.reason(1, 2, 0, 1));
        Checks.noIndex("site -1", place, () -> place.reason(0, -1, 0, 1));
        Checks.noIndex("site 8 before bad level", place, () -> place.reason(0, 8, 6, 0));
        Checks.badArgument("level -1", place, () -> place.reason(0, 2, -1, 1));
        Checks.badArgument("level 6", place, () -> place.reason(0, 2, 6, 1));
        Checks.badArgument("units 0", place, () -> place.reason(0, 2, 0, 0));
        Checks.badArgument("units 101", place, () -> place.reason(0, 2, 0, 101));
        Checks.badArgument("bad units where nothing stands", place, () -> place.reason(0, 0, 0, 101));
    }

    private static void promise20VolumeIn() {
        SnowSites place = Checks.placeWith(new int[] {2, 1, 2}, new int[] {3, 0});
        Checks.noIndex("site -1", place, () -> place.volumeIn(-1, 0));
        Checks.noIndex("site 8 before bad hours", place, () -> place.volumeIn(8, 49));
        Checks.badArgument("hours -1", place, () -> place.volumeIn(2, -1));
        Checks.badArgument("hours 49", place, () -> place.volumeIn(2, 49));
        Checks.is("no sculpture", place.volumeIn(0, 48), 0);
        Checks.is("in no hour", place.volumeIn(2, 0), 200);
        Checks.is("in one hour", place.volumeIn(2, 1), 196);
        Checks.is("the loose one in one hour", place.volumeIn(3, 1), 88);
        int[] later = new int[49];
        for (int hours = 0; hours <= 48; hours++) {
            later[hours] = place.volumeIn(2, hours);
        }
        for (int hours = 1; hours <= 48; hours++) {
            place.hour(false);
            Checks.is("as it was told for " + hours, place.site(2, 1), later[hours]);
        }
    }

    private static void promise21GoneIn() {
        SnowSites place = Checks.placeWith(new int[] {2, 0}, new int[] {5, 2, 2, 2, 2, 2, 2});
        Checks.noIndex("site -1", place, () -> place.goneIn(-1));
        Checks.noIndex("site 8", place, () -> place.goneIn(8));
        Checks.is("no sculpture", place.goneIn(0), SnowSites.NONE);
        Checks.is("a lone loose block", place.goneIn(2), 9);
        place.hour(true);
        Checks.is("the same an hour later", place.goneIn(2), 9);
        place.setWall(2, true);
        // From the hour 1 on: three hours of 12 units, four of 6 and four of 12 would leave none.
        Checks.is("behind a wall", place.goneIn(2), 11);
        place.hour(true);
        Checks.is("behind a wall, from the hour 2 on", place.goneIn(2), 11);
        place.hour(true);
        place.hour(true);
        Checks.is("behind a wall, from the hour 4 on", place.goneIn(2), 11);
        place.hour(true);
        Checks.is("behind a wall, from the hour 5 on", place.goneIn(2), 10);
        place.setWall(2, false);
        int due = place.goneIn(5);
        for (int hours = 1; hours < due; hours++) {
            place.hour(false);
        }
        Checks.is("still there", place.site(5, 0) > 0 ? 1 : 0, 1);
        Checks.is("in one hour", place.goneIn(5), 1);
        place.hour(false);
        Checks.is("gone", place.site(5, 0), 0);
    }

    /** Ice behind walls on all sites: the inner sculptures outlast the 200 hours, and one of them just not. */
    private static void promise21LongLived() {
        SnowSites place = Places.iceBehindWalls();
        Checks.is("the outer one in the west", place.goneIn(0), 128);
        Checks.is("the outer one in the east", place.goneIn(7), 121);
        for (int site = 1; site < 7; site++) {
            Checks.is("still there: site " + site, place.goneIn(site), SnowSites.NONE);
        }
        place.addTool(20);
        place.carve(0, 2, 5, 100);
        place.carve(0, 2, 4, 97);
        Checks.is("still there after 200 hours", place.goneIn(2), SnowSites.NONE);
        place.carve(0, 2, 4, 1);
        Checks.is("gone with the last of 200 hours", place.goneIn(2), 200);
    }

    private static void promise22BestWall() {
        SnowSites place = Checks.placeWith(new int[] {1, 2}, new int[] {3, 0, 0}, new int[] {5, 1, 1});
        Checks.is("the loose one", place.bestWall(), 3);
        place.setWall(3, true);
        Checks.is("then the pressed one", place.bestWall(), 5);
        place.setWall(5, true);
        Checks.is("then the ice", place.bestWall(), 1);
        place.setWall(1, true);
        Checks.is("then none", place.bestWall(), SnowSites.NONE);
        place.setWall(1, false);
        Checks.is("the ice again", place.bestWall(), 1);
        SnowSites empty = new SnowSites();
        Checks.is("nothing to save", empty.bestWall(), SnowSites.NONE);
        SnowSites small = Checks.placeWith(new int[] {1, 0});
        small.addTool(20);
        small.carve(0, 1, 0, 95);
        Checks.is("gone before the south", small.bestWall(), SnowSites.NONE);
    }

    /** In the hour 8 the twelve hours end with the south of the next day, so all of them count. */
    private static void promise22Ties() {
        SnowSites place = Checks.placeWith(new int[] {2, 1}, new int[] {4, 1}, new int[] {6, 1});
        Checks.is("the lowest of several", place.bestWall(), 2);
        place.setWall(2, true);
        Checks.is("the lowest of the others", place.bestWall(), 4);
        for (int i = 0; i < 8; i++) {
            place.hour(true);
        }
        Checks.is("in the hour 8", place.bestWall(), 4);
    }

    /** 41 units of ice would be gone in the twelve hours, and 40 of them would melt behind a wall. */
    private static void promise22OneUnit() {
        SnowSites place = Checks.placeWith(new int[] {0, 2});
        place.addTool(20);
        place.carve(0, 0, 0, 59);
        Checks.is("one unit is saved", place.bestWall(), 0);
        place.carve(0, 0, 0, 1);
        Checks.is("none is saved", place.bestWall(), SnowSites.NONE);
    }

    private static void promise23MinutesFor() {
        SnowSites place = new SnowSites();
        Checks.noIndex("no tool", place, () -> place.minutesFor(0, 1));
        place.addTool(7);
        Checks.noIndex("tool -1", place, () -> place.minutesFor(-1, 1));
        Checks.noIndex("tool 1 before bad units", place, () -> place.minutesFor(1, -1));
        Checks.badArgument("units -1", place, () -> place.minutesFor(0, -1));
        Checks.badArgument("units 10000", place, () -> place.minutesFor(0, 10000));
        Checks.is("0 units", place.minutesFor(0, 0), 0);
        Checks.is("1 unit", place.minutesFor(0, 1), 1);
        Checks.is("7 units", place.minutesFor(0, 7), 1);
        Checks.is("8 units", place.minutesFor(0, 8), 2);
        Checks.is("9999 units", place.minutesFor(0, 9999), 1429);
    }

    private static void nothingIsChanged() {
        SnowSites place = Checks.placeWith(new int[] {2, 0, 1}, new int[] {3, 2});
        place.addTool(5);
        long before = place.digest();
        place.reason(0, 2, 0, 50);
        place.volumeIn(2, 48);
        place.goneIn(3);
        place.bestWall();
        place.minutesFor(0, 500);
        place.rounds();
        Checks.is("digest", place.digest(), before);
    }
}
