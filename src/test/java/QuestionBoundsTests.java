/** Promises 8 to 25: the least and the greatest answers, the empty place and the full one, and when NONE is due. */
public final class QuestionBoundsTests {
    private static final int NONE = SnowSites.NONE;

    private QuestionBoundsTests() {
    }

    public static void main(String[] args) {
        promise8AsManyAsThereIsRoomFor();
        promise8NothingToPutBack();
        promise11TheNumberThatThereWere();
        promise12NoSuchBlock();
        promise12NoFace();
        promise13EmptyAndFull();
        promise14FromFirstToLastMinute();
        promise15FullPlace();
        promise18NoWinner();
        promise20HoursFrom0To48();
        promise20OverTheWrap();
        promise20AllSitesMelt();
        promise20GoneBefore();
        promise21OneHour();
        promise21The200thHour();
        promise21FromEachHour();
        promise21None();
        promise22NoneWouldSave();
        promise22OneUnit();
        promise22TwelveHours();
        promise22OneMoreWall();
        promise22TheLowest();
        promise22OnAllSites();
        promise23LeastAndMost();
        promise23EachSpeedAndAllUnits();
        promise25TheLengthThatItHad();
        noneOnlyWithoutAnException();
        Checks.finish();
    }

    /** So many units of offcuts, and room for so many in the store. */
    private static SnowSites offcutsAndRoom(int offcuts, int room) {
        SnowSites place = Checks.placeWith(new int[] {1, 0, 0, 0});
        for (int left = offcuts; left > 0; left -= 100) {
            Places.carveTo(place, 1, 0, Math.max(100 - left, 0));
        }
        if (room < 9999) {
            place.addSnow(9999 - room);
        }
        return place;
    }

    private static void promise8AsManyAsThereIsRoomFor() {
        Checks.sentence("Promise 8: Puts all offcuts back into the store, as many as there is room for.");
        int[][] cases = {{30, 0}, {30, 1}, {30, 29}, {30, 30}, {30, 31}, {1, 0}, {1, 1}, {1, 2}, {250, 249}, {250, 9999}};
        for (int[] one : cases) {
            SnowSites place = offcutsAndRoom(one[0], one[1]);
            int due = Math.min(one[0], one[1]);
            Checks.is("offcuts before", place.whole(7), one[0]);
            Checks.is(one[0] + " offcuts, room for " + one[1], place.recycle(), due);
            Checks.is("snow", place.whole(0), 9999 - one[1] + due);
            Checks.is("offcuts that stay", place.whole(7), one[0] - due);
            Checks.is("put back in all", place.whole(9), due);
            Checks.is("nothing more", place.recycle(), 0);
            Checks.is("in all", place.whole(9), due);
        }
    }

    private static void promise8NothingToPutBack() {
        Checks.sentence("Promise 8: Returns the units that are put back.");
        Checks.is("a new object", new SnowSites().recycle(), 0);
        SnowSites full = Places.full();
        Checks.is("a full store, no offcuts", full.recycle(), 0);
        full.carve(0, 0, 0, 1);
        Checks.is("a full store, one offcut", full.recycle(), 0);
        Checks.is("it stays", full.whole(7), 1);
    }

    private static void promise11TheNumberThatThereWere() {
        Checks.sentence("Promise 11: Returns the number that there were.");
        for (int ballots : new int[] {0, 1, 19, 20}) {
            SnowSites place = Places.withBallots(ballots);
            Checks.is("there were", place.clearBallots(), ballots);
            Checks.is("there are", place.whole(14), 0);
            Checks.is("cleared again", place.clearBallots(), 0);
        }
    }

    private static void promise12NoSuchBlock() {
        Checks.sentence("Promise 12: Returns that value; NONE if there is no such block.");
        for (int height = 0; height <= 6; height++) {
            SnowSites place = Places.withStock(2, 6);
            for (int level = 0; level < height; level++) {
                place.stack(7, 2);
            }
            for (int level = 0; level < 6; level++) {
                for (int what = 0; what < 3; what++) {
                    int value = place.block(7, level, what);
                    Checks.is("level " + level + " of " + height, value == NONE ? 0 : 1, level < height ? 1 : 0);
                }
            }
        }
        SnowSites gone = Checks.placeWith(new int[] {7, 0, 1, 2});
        Places.carveTo(gone, 7, 0, 0);
        Checks.is("the level that came down last", gone.block(7, 1, 1), 100);
        Checks.is("where it was", gone.block(7, 2, 1), NONE);
    }

    private static void promise12NoFace() {
        Checks.sentence("Promise 12: 2 its faces that would be in the sun in this hour, if it was not cloudy");
        SnowSites place = Checks.placeWith(new int[] {3, 0, 0}, new int[] {4, 0});
        Checks.is("none, which is not NONE", place.block(3, 0, 2), 0);
        Checks.is("the side of the upper one, and the top", place.block(3, 1, 2), 2);
        place.hour(true);
        Checks.is("a cloudy hour behind it changes nothing", place.block(3, 0, 2), 0);
        Places.passTo(place, 4);
        Checks.is("one", place.block(3, 0, 2), 1);
    }

    private static void promise13EmptyAndFull() {
        Checks.sentence("Promise 13: 0 blocks, 1 sum of their volumes, 2 wall, 3 carved off, 4 melted on this site, in all");
        SnowSites full = Places.full();
        int[] due = {6, 600, 1, 0, 0};
        for (int site = 0; site < 8; site++) {
            for (int what = 0; what < 5; what++) {
                Checks.is("full: value " + what, full.site(site, what), due[what]);
                Checks.is("empty: value " + what, new SnowSites().site(site, what), 0);
            }
        }
        SnowSites place = Checks.placeWith(new int[] {4, 0});
        Places.carveTo(place, 4, 0, 12);
        place.hour(false);
        int[] gone = {0, 0, 0, 88, 12};
        for (int what = 0; what < 5; what++) {
            Checks.is("a sculpture that is gone: value " + what, place.site(4, what), gone[what]);
        }
        place.stack(4, 1);
        Places.carveTo(place, 4, 0, 99);
        place.hour(false);
        Checks.is("in all: carved", place.site(4, 3), 89);
        Checks.is("in all: melted", place.site(4, 4), 20);
    }

    private static void promise14FromFirstToLastMinute() {
        Checks.sentence("Promise 14: 0 speed, 1 minutes left, 2 minutes used, in all");
        SnowSites place = Checks.placeWith(new int[] {4, 0, 0, 0});
        place.addTool(1);
        for (int minute = 1; minute <= 60; minute++) {
            place.carve(0, 4, 0, 1);
            Checks.is("left", place.tool(0, 1), 60 - minute);
            Checks.is("used", place.tool(0, 2), minute);
        }
        place.hour(true);
        place.carve(0, 4, 0, 40);
        Checks.is("left in the next hour", place.tool(0, 1), 20);
        Checks.is("used in all", place.tool(0, 2), 100);
        Checks.is("speed", place.tool(0, 0), 1);
    }

    private static void promise15FullPlace() {
        Checks.sentence("Promise 15: 0 snow in the store [..] 15 length of the order text");
        SnowSites full = Places.full();
        int[] due = {9999, 50, 50, 50, 198, 8, 4800, 0, 0, 0, 5, 8, 0, 0, 20, 150};
        for (int what = 0; what < 16; what++) {
            Checks.is("full: whole " + what, full.whole(what), due[what]);
            Checks.is("empty: whole " + what, new SnowSites().whole(what), 0);
        }
    }

    private static void promise18NoWinner() {
        Checks.sentence("Promise 18: Returns the site; NONE without sculptures.");
        Checks.is("a new object", new SnowSites().winner(), NONE);
        Checks.is("with ballots alone", Places.withBallots(20).winner(), NONE);
        Checks.is("the site 0", Checks.placeWith(new int[] {0, 0}).winner(), 0);
        Checks.is("the site 7", Checks.placeWith(new int[] {7, 0}).winner(), 7);
        SnowSites full = Places.full();
        Checks.is("a full place has one", full.votes(full.rounds() - 1, full.winner()) > 0 ? 1 : 0, 1);
    }

    private static void promise20HoursFrom0To48() {
        Checks.sentence("Promise 20: Returns the volume that a site would have after some hours without clouds. (0 to 48)");
        SnowSites place = Places.full();
        int[][] later = new int[8][49];
        for (int site = 0; site < 8; site++) {
            for (int hours = 0; hours <= 48; hours++) {
                later[site][hours] = place.volumeIn(site, hours);
            }
        }
        Checks.is("in no hour", later[3][0], 600);
        for (int hours = 0; hours <= 48; hours++) {
            for (int site = 0; site < 8; site++) {
                Checks.is("site " + site + " after " + hours, place.site(site, 1), later[site][hours]);
            }
            place.hour(false);
        }
    }

    private static void promise20OverTheWrap() {
        Checks.sentence("after some hours without clouds (from the hour 11 on, over the wrap)");
        SnowSites place = Places.atHour(11, new int[] {1, 0}, new int[] {2, 2});
        Checks.is("the hour 11: nothing shades from the west", place.volumeIn(1, 1), 100 - 12);
        Checks.is("the hour 0: shaded from the east", place.volumeIn(1, 2), 100 - 12 - 6);
        Checks.is("to the hour 3", place.volumeIn(1, 5), 100 - 12 - 4 * 6);
        Checks.is("the hour 4: nothing shades from the south", place.volumeIn(1, 6), 100 - 12 - 4 * 6 - 12);
    }

    private static void promise20AllSitesMelt() {
        Checks.sentence("after some hours without clouds (the neighbors melt, too)");
        SnowSites place = Checks.placeWith(new int[] {1, 1}, new int[] {2, 0});
        Places.carveTo(place, 2, 0, 13);
        Checks.is("shaded for two hours", place.volumeIn(1, 2), 100 - 4 - 4);
        Checks.is("and then no more", place.volumeIn(1, 3), 100 - 4 - 4 - 8);
    }

    private static void promise20GoneBefore() {
        Checks.sentence("Promise 20: Returns the sum of the volumes.");
        SnowSites place = Checks.placeWith(new int[] {1, 0});
        Checks.is("before it is gone", place.volumeIn(1, 8), 4);
        for (int hours : new int[] {9, 10, 47, 48}) {
            Checks.is("when it is gone", place.volumeIn(1, hours), 0);
            Checks.is("where nothing stands", place.volumeIn(0, hours), 0);
        }
    }

    private static void promise21OneHour() {
        Checks.sentence("Promise 21: Returns the hours, 1 to 200");
        int[] volumes = {1, 12, 13, 24, 25, 96, 97, 100};
        int[] due = {1, 1, 2, 2, 3, 8, 9, 9};
        for (int i = 0; i < volumes.length; i++) {
            SnowSites place = Checks.placeWith(new int[] {7, 0});
            Places.carveTo(place, 7, 0, volumes[i]);
            Checks.is("with " + volumes[i] + " units", place.goneIn(7), due[i]);
        }
    }

    /** Ice behind walls on all sites: what the site 2 has left decides about its last hour. */
    private static SnowSites longLived(int volume) {
        SnowSites place = Places.iceBehindWalls();
        place.addTool(20);
        place.carve(0, 2, 5, 100);
        Places.carveTo(place, 2, 4, volume);
        return place;
    }

    private static void promise21The200thHour() {
        Checks.sentence("Promise 21: 1 to 200; NONE if there is none, or it would still be there.");
        Checks.is("gone with the last of 200 hours", longLived(2).goneIn(2), 200);
        Checks.is("gone with the 201st", longLived(3).goneIn(2), NONE);
        SnowSites later = longLived(3);
        later.hour(false);
        Checks.is("an hour later it is the 200th", later.goneIn(2), 200);
        later.hour(false);
        Checks.is("then the 199th", later.goneIn(2), 199);
        for (int i = 0; i < 198; i++) {
            later.hour(false);
        }
        Checks.is("in the last one it is still there", later.site(2, 0), 1);
        Checks.is("one hour", later.goneIn(2), 1);
        later.hour(false);
        Checks.is("gone", later.site(2, 0), 0);
    }

    private static void promise21FromEachHour() {
        Checks.sentence("Promise 21: after how many hours without clouds (from each hour on, over the wrap)");
        for (int hour = 0; hour < 12; hour++) {
            SnowSites place = Places.atHour(hour, new int[] {1, 0, 1}, new int[] {2, 1}, new int[] {4, 2});
            place.setWall(1, true);
            place.setWall(4, true);
            int[] due = {0, place.goneIn(1), place.goneIn(2), 0, place.goneIn(4)};
            for (int passed = 0; passed < 60; passed++) {
                for (int site : new int[] {1, 2, 4}) {
                    Checks.is("site " + site + ", " + passed + " hours behind hour " + hour, place.site(site, 0) > 0 ? 1 : 0,
                        passed < due[site] ? 1 : 0);
                }
                place.hour(false);
            }
        }
    }

    private static void promise21None() {
        Checks.sentence("Promise 21: NONE if there is none");
        SnowSites place = Checks.placeWith(new int[] {0, 0}, new int[] {7, 0});
        for (int site = 0; site < 8; site++) {
            Checks.is("site " + site, place.goneIn(site) == NONE ? 1 : 0, site == 0 || site == 7 ? 0 : 1);
            Checks.is("without sculptures", new SnowSites().goneIn(site), NONE);
        }
        place.undo();
        Checks.is("unstacked", place.goneIn(7), NONE);
    }

    private static void promise22NoneWouldSave() {
        Checks.sentence("Promise 22: NONE if none would save any.");
        Checks.is("without sculptures", new SnowSites().bestWall(), NONE);
        SnowSites walled = new SnowSites();
        walled.setWall(3, true);
        Checks.is("with a wall alone", walled.bestWall(), NONE);
        Checks.is("where all have a wall", Places.full().bestWall(), NONE);
        SnowSites place = Checks.placeWith(new int[] {2, 1});
        place.setWall(2, true);
        Checks.is("where the only one has a wall", place.bestWall(), NONE);
        place.setWall(2, false);
        Checks.is("without it", place.bestWall(), 2);
        // By the hour 4 four hours of 8 units have passed.
        Places.carveTo(place, 2, 0, 33);
        Checks.is("a last unit for the south, which a wall does not save", place.bestWall(), NONE);
        Places.carveTo(place, 2, 0, 32);
        Checks.is("gone before the south", place.bestWall(), NONE);
    }

    private static void promise22OneUnit() {
        Checks.sentence("Promise 22: would save the most snow in the next 12 hours without clouds");
        SnowSites place = Checks.placeWith(new int[] {5, 2});
        Places.carveTo(place, 5, 0, 41);
        Checks.is("one unit is saved", place.bestWall(), 5);
        Places.carveTo(place, 5, 0, 40);
        Checks.is("none is saved", place.bestWall(), NONE);
        SnowSites two = Checks.placeWith(new int[] {1, 2}, new int[] {5, 2});
        Places.carveTo(two, 1, 0, 42);
        Places.carveTo(two, 5, 0, 43);
        Checks.is("three units before two", two.bestWall(), 5);
        Places.carveTo(two, 5, 0, 41);
        Checks.is("two units before one", two.bestWall(), 1);
        Places.carveTo(two, 1, 0, 41);
        Checks.is("one unit each", two.bestWall(), 1);
    }

    /** Ice melts 4 units an hour, behind a wall 2 in the south; from the hour 8 on the south comes last, from 4 on first. */
    private static void promise22TwelveHours() {
        Checks.sentence("Promise 22: in the next 12 hours without clouds");
        SnowSites last = Places.atHour(8, new int[] {3, 2});
        Places.carveTo(last, 3, 0, 40);
        Checks.is("the twelfth hour takes what eleven would have saved", last.bestWall(), NONE);
        Places.carveTo(last, 3, 0, 40 - 8);
        Checks.is("gone before the south", last.bestWall(), NONE);
        SnowSites first = Places.atHour(4, new int[] {3, 2});
        Places.carveTo(first, 3, 0, 41);
        Checks.is("a thirteenth hour would take what twelve save", first.bestWall(), 3);
        SnowSites all = Places.atHour(8, new int[] {3, 2});
        Checks.is("a whole one, from the hour 8 on", all.bestWall(), 3);
    }

    private static void promise22OneMoreWall() {
        Checks.sentence("Promise 22: Finds the site where one more wall would save the most snow");
        SnowSites place = Checks.placeWith(new int[] {1, 2}, new int[] {3, 1}, new int[] {6, 2, 2, 2});
        Checks.is("three of ice", place.bestWall(), 6);
        place.setWall(6, true);
        Checks.is("then a pressed one", place.bestWall(), 3);
        place.setWall(3, true);
        Checks.is("then one of ice", place.bestWall(), 1);
        place.setWall(1, true);
        Checks.is("then none", place.bestWall(), NONE);
        place.setWall(6, false);
        Checks.is("three of ice again", place.bestWall(), 6);
    }

    private static void promise22TheLowest() {
        Checks.sentence("Promise 22: Returns the site, of several the lowest one");
        SnowSites place = Checks.placeWith(new int[] {0, 1}, new int[] {2, 1}, new int[] {5, 1}, new int[] {7, 1});
        int[] due = {0, 2, 5, 7};
        for (int site : due) {
            Checks.is("the lowest one that has no wall", place.bestWall(), site);
            place.setWall(site, true);
        }
        Checks.is("none is left", place.bestWall(), NONE);
    }

    /** The site 2 would be gone in any case, but behind a wall it shades the site 3 from the west for two hours. */
    private static void promise22OnAllSites() {
        Checks.sentence("Promise 22: that would melt, on all sites, without the wall and not with it.");
        SnowSites place = Places.atHour(4, new int[] {2, 0}, new int[] {3, 1});
        Places.carveTo(place, 2, 0, 41);
        place.setWall(3, true);
        Checks.is("all that is saved is on the neighbor", place.bestWall(), 2);
        place.undo();
        Checks.is("a wall of its own saves more", place.bestWall(), 3);
    }

    private static void promise23LeastAndMost() {
        Checks.sentence("Promise 23: Tells how many minutes a tool would need to carve so many units. (0 to 9999)");
        SnowSites place = Checks.placeWith(new int[] {2, 0});
        place.addTool(1);
        place.addTool(20);
        int[][] due = {{0, 0, 0}, {1, 1, 1}, {19, 19, 1}, {20, 20, 1}, {21, 21, 2}, {9998, 9998, 500}, {9999, 9999, 500},
            {9980, 9980, 499}, {9981, 9981, 500}};
        for (int[] one : due) {
            Checks.is("speed 1: " + one[0], place.minutesFor(0, one[0]), one[1]);
            Checks.is("speed 20: " + one[0], place.minutesFor(1, one[0]), one[2]);
        }
        place.carve(0, 2, 0, 60);
        Checks.is("also with no minute left", place.minutesFor(0, 9999), 9999);
    }

    private static void promise23EachSpeedAndAllUnits() {
        Checks.sentence("All numbers are whole; a / b is rounded up where this is told");
        for (int speed = 1; speed <= 20; speed++) {
            SnowSites place = null;
            for (int units = 0; units <= 9999; units++) {
                if (units % 500 == 0) {
                    place = new SnowSites();
                    place.addTool(speed);
                }
                int minutes = place.minutesFor(0, units);
                boolean just = minutes * speed >= units && (minutes - 1) * speed < units;
                Checks.is(units + " units at speed " + speed + ": just " + minutes, just ? 1 : 0, 1);
            }
        }
    }

    private static void promise25TheLengthThatItHad() {
        Checks.sentence("Promise 25: Returns the length that it had.");
        for (int length : new int[] {0, 1, 149, 150}) {
            SnowSites place = Places.withText(" ".repeat(length));
            Checks.is("it had", place.clearOrders(), length);
            Checks.is("it has", place.whole(15), 0);
            Checks.is("cleared again", place.clearOrders(), 0);
            Checks.is("an empty text has no fault", place.runOrders(), 0);
            Checks.is("room for the first byte", place.type(0), 1);
        }
    }

    private static void noneOnlyWithoutAnException() {
        Checks.sentence("NONE is returned only if no exception applies.");
        Twins.badArgument("block: no block, bad what", SnowSites::new, p -> p.block(0, 0, 3));
        Twins.badArgument("block: no block, bad level", SnowSites::new, p -> p.block(0, 6, 0));
        Twins.noIndex("votes: no round, no site", SnowSites::new, p -> p.votes(0, 8));
        Twins.badArgument("votes: no round, negative", SnowSites::new, p -> p.votes(-1, 0));
        Twins.noIndex("goneIn: none, no site", SnowSites::new, p -> p.goneIn(8));
        Twins.answers("block: no block", SnowSites::new, p -> p.block(0, 0, 2), NONE);
        Twins.answers("votes: no round", SnowSites::new, p -> p.votes(0, 7), NONE);
        Twins.answers("goneIn: none", SnowSites::new, p -> p.goneIn(7), NONE);
        Twins.answers("winner: none", SnowSites::new, SnowSites::winner, NONE);
        Twins.answers("bestWall: none", SnowSites::new, SnowSites::bestWall, NONE);
    }
}
