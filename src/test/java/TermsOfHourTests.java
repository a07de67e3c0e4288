/** The document's term "AN HOUR": both sides of each bound that it names, and the hours that wrap around. */
public final class TermsOfHourTests {
    private TermsOfHourTests() {
    }

    public static void main(String[] args) {
        hoursOfADay();
        newDayBehindTheHour11();
        sunOfTheHours();
        meltsByTheHourThatPasses();
        cloudsMeltNothing();
        byTheStacksBefore();
        byTheStacksOfTheNeighborBefore();
        notMoreThanItsVolume();
        ratesOfTheKinds();
        forEachOfItsFaces();
        sameLevelOfTheNeighbor();
        noneBeyondTheEnds();
        theNeighborAlone();
        southAndItsWall();
        topOfTheHighest();
        topBehindAWall();
        sixtyMinutesLeft();
        hourIncreasesByOne();
        emptyPlace();
        Checks.finish();
    }

    private static void hoursOfADay() {
        Checks.sentence("The hours of a day are 0 to 11");
        SnowSites place = new SnowSites();
        for (int hour = 0; hour < 30; hour++) {
            Checks.is("hour", place.whole(12), hour % 12);
            Checks.is("day", place.whole(13), hour / 12);
            place.hour(hour % 2 == 0);
        }
    }

    private static void newDayBehindTheHour11() {
        Checks.sentence("a new day begins behind the hour 11.");
        for (boolean cloudy : new boolean[] {true, false}) {
            SnowSites place = Places.atHour(10);
            place.hour(cloudy);
            Checks.is("the hour behind the hour 10", place.whole(12), 11);
            Checks.is("the same day", place.whole(13), 0);
            place.hour(cloudy);
            Checks.is("the hour behind the hour 11", place.whole(12), 0);
            Checks.is("the next day", place.whole(13), 1);
            place.undo();
            Checks.is("undo: the hour", place.whole(12), 11);
            Checks.is("undo: the day", place.whole(13), 0);
        }
    }

    /** Site 0 is shaded from the east alone, site 2 from the south, site 5 from the west. */
    private static SnowSites shadedByOneSide(int hour) {
        SnowSites place = Places.atHour(hour, new int[] {0, 0}, new int[] {1, 2, 2}, new int[] {3, 0},
            new int[] {5, 2, 2}, new int[] {6, 0});
        place.setWall(3, true);
        return place;
    }

    private static void sunOfTheHours() {
        Checks.sentence("In the hours 0 to 3 the sun is in the east, in 4 to 7 in the south, in 8 to 11 in the west.");
        SnowSites place = shadedByOneSide(0);
        for (int hour = 0; hour < 24; hour++) {
            int side = hour % 12 / 4;
            Checks.is("shaded from the east, in hour " + hour, place.block(0, 0, 2), side == 0 ? 1 : 2);
            Checks.is("shaded from the south, in hour " + hour, place.block(3, 0, 2), side == 1 ? 1 : 2);
            Checks.is("shaded from the west, in hour " + hour, place.block(6, 0, 2), side == 2 ? 1 : 2);
            place.hour(true);
        }
    }

    private static void meltsByTheHourThatPasses() {
        Checks.sentence("each block melts, by the sun of the hour that passes (whole(12) before it)");
        for (int hour = 0; hour < 12; hour++) {
            int side = hour / 4;
            SnowSites place = shadedByOneSide(hour);
            place.hour(false);
            Checks.is("shaded from the east, hour " + hour, place.site(0, 4), side == 0 ? 6 : 12);
            Checks.is("shaded from the south, hour " + hour, place.site(3, 4), side == 1 ? 6 : 12);
            Checks.is("shaded from the west, hour " + hour, place.site(6, 4), side == 2 ? 6 : 12);
        }
    }

    private static void cloudsMeltNothing() {
        Checks.sentence("When an hour passes, and it is not cloudy, each block melts");
        for (int hour = 0; hour < 12; hour++) {
            SnowSites place = shadedByOneSide(hour);
            int before = place.whole(6);
            Checks.is("clouds in hour " + hour, place.hour(true), 0);
            Checks.is("volumes", place.whole(6), before);
            Checks.is("melted", place.whole(8), 0);
            int melts = place.hour(false);
            Checks.is("sun in the hour behind it", melts > 0 ? 1 : 0, 1);
            Checks.is("volumes then", place.whole(6), before - melts);
            Checks.is("melted then", place.whole(8), melts);
        }
    }

    private static void byTheStacksBefore() {
        Checks.sentence("by the stacks as they were before it");
        SnowSites place = Checks.placeWith(new int[] {4, 0, 1});
        Places.carveTo(place, 4, 1, 8);
        Checks.is("the top one goes, and the lower one's top is not yet in the sun", place.hour(false), 8 + 6);
        Checks.is("in the next hour it is", place.hour(false), 12);
    }

    private static void byTheStacksOfTheNeighborBefore() {
        Checks.sentence("by the stacks as they were before it");
        int[] hours = {0, 8};
        int[] shading = {5, 3};
        for (int i = 0; i < 2; i++) {
            SnowSites place = Places.atHour(hours[i], new int[] {4, 0}, new int[] {shading[i], 0});
            Places.carveTo(place, shading[i], 0, 1);
            Checks.is("it goes in this hour, and shades in it", place.hour(false), 6 + 1);
            Checks.is("in the next hour it does not", place.hour(false), 12);
        }
    }

    private static void notMoreThanItsVolume() {
        Checks.sentence("but not more than its volume.");
        for (int kind = 0; kind < 3; kind++) {
            int loss = 2 * (kind == 0 ? 6 : kind == 1 ? 4 : 2);
            for (int volume : new int[] {1, loss - 1, loss, loss + 1}) {
                SnowSites place = Checks.placeWith(new int[] {7, kind});
                Places.carveTo(place, 7, 0, volume);
                Checks.is("melts of " + volume, place.hour(false), volume < loss ? volume : loss);
                Checks.is("left of " + volume, place.whole(6), volume > loss ? 1 : 0);
                Checks.is("blocks", place.site(7, 0), volume > loss ? 1 : 0);
                Checks.is("melted on the site", place.site(7, 4), volume < loss ? volume : loss);
            }
        }
    }

    private static void ratesOfTheKinds() {
        Checks.sentence("The rate of a loose block is 6, that of a pressed one 4, and that of ice half of that of a pressed one.");
        int[] rates = {6, 4, 2};
        for (int kind = 0; kind < 3; kind++) {
            for (int hour : new int[] {0, 4, 8}) {
                SnowSites place = Places.atHour(hour, new int[] {3, kind});
                Checks.is("two faces of kind " + kind, place.hour(false), 2 * rates[kind]);
            }
        }
    }

    private static void forEachOfItsFaces() {
        Checks.sentence("by its rate for each of its faces that is in the sun");
        int[] rates = {6, 4, 2};
        for (int kind = 0; kind < 3; kind++) {
            SnowSites place = Places.atHour(4, new int[] {3, kind, kind}, new int[] {5, kind, kind});
            place.setWall(5, true);
            place.hour(false);
            Checks.is("one face", 100 - place.block(3, 0, 1), rates[kind]);
            Checks.is("two faces", 100 - place.block(3, 1, 1), 2 * rates[kind]);
            Checks.is("no face", 100 - place.block(5, 0, 1), 0);
            Checks.is("the top alone", 100 - place.block(5, 1, 1), rates[kind]);
        }
    }

    private static void sameLevelOfTheNeighbor() {
        Checks.sentence("unless the neighboring site there has a sculpture with a block on the same level");
        int[] hours = {0, 8};
        int[] neighbors = {4, 2};
        for (int i = 0; i < 2; i++) {
            for (int height = 0; height <= 6; height++) {
                SnowSites place = Places.atHour(hours[i], new int[] {3, 2, 2, 2, 2, 2, 2});
                for (int level = 0; level < height; level++) {
                    place.stack(neighbors[i], 2);
                }
                for (int level = 0; level < 6; level++) {
                    int top = level == 5 ? 1 : 0;
                    Checks.is("level " + level + " beside " + height + " blocks", place.block(3, level, 2),
                        level < height ? top : top + 1);
                }
            }
        }
    }

    private static void noneBeyondTheEnds() {
        Checks.sentence("(there is none beyond the sites 0 and 7)");
        int[] six = {2, 2, 2, 2, 2, 2};
        SnowSites place = Checks.placeWith(new int[] {0, 0, 0}, new int[] {7, 2, 2, 2, 2, 2, 2});
        Checks.is("sun in the east: the sites 7 and 0", place.block(7, 0, 2) + 10 * place.block(0, 0, 2), 11);
        Places.passTo(place, 8);
        Checks.is("sun in the west: the site 0 is not shaded by 7", place.block(0, 0, 2), 1);
        Checks.is("nor its upper block", place.block(0, 1, 2), 2);
        Checks.is("melts", place.hour(false), 6 + 12 + 2 * six.length + 2);
        SnowSites turned = Checks.placeWith(new int[] {7, 0, 0}, new int[] {0, 2, 2, 2, 2, 2, 2});
        Checks.is("sun in the east: the site 7 is not shaded by 0", turned.block(7, 0, 2), 1);
        Checks.is("nor its upper block", turned.block(7, 1, 2), 2);
        Checks.is("melts", turned.hour(false), 6 + 12 + 2 * six.length + 2);
    }

    private static void theNeighborAlone() {
        Checks.sentence("the side towards the sun, in the east or west: unless the neighboring site there");
        int[][] shading = {{4}, {}, {2}};
        for (int hour : new int[] {0, 4, 8}) {
            for (int other = 0; other < 8; other++) {
                if (other != 3) {
                    SnowSites place = Places.atHour(hour, new int[] {3, 1}, new int[] {other, 1});
                    boolean shaded = false;
                    for (int site : shading[hour / 4]) {
                        shaded |= site == other;
                    }
                    Checks.is("beside " + other + " in hour " + hour, place.block(3, 0, 2), shaded ? 1 : 2);
                }
            }
        }
    }

    private static void southAndItsWall() {
        Checks.sentence("in the south: unless the site has a wall");
        for (int walled = 0; walled < 8; walled++) {
            SnowSites place = Places.atHour(4, new int[] {0, 1, 1}, new int[] {1, 1}, new int[] {4, 1, 1, 1, 1, 1, 1},
                new int[] {7, 1});
            place.setWall(walled, true);
            Checks.is("site 0, wall at " + walled, place.block(0, 0, 2), walled == 0 ? 0 : 1);
            Checks.is("site 1, wall at " + walled, place.block(1, 0, 2), walled == 1 ? 1 : 2);
            Checks.is("site 7, wall at " + walled, place.block(7, 0, 2), walled == 7 ? 1 : 2);
            for (int level = 0; level < 5; level++) {
                Checks.is("each level of site 4", place.block(4, level, 2), walled == 4 ? 0 : 1);
            }
            place.setWall(walled, false);
            Checks.is("site 0 without the wall", place.block(0, 0, 2), 1);
            Checks.is("site 7 without the wall", place.block(7, 0, 2), 2);
        }
    }

    private static void topOfTheHighest() {
        Checks.sentence("the top, if it is the highest block of its sculpture");
        for (int height = 1; height <= 6; height++) {
            SnowSites place = Places.atHour(4);
            for (int level = 0; level < height; level++) {
                place.stack(2, level % 3);
            }
            for (int level = 0; level < height; level++) {
                Checks.is("level " + level + " of " + height, place.block(2, level, 2), level == height - 1 ? 2 : 1);
            }
        }
    }

    private static void topBehindAWall() {
        Checks.sentence("(also behind a wall).");
        SnowSites place = Places.atHour(4, new int[] {2, 0, 0});
        place.setWall(2, true);
        Checks.is("the lower one", place.block(2, 0, 2), 0);
        Checks.is("the highest one", place.block(2, 1, 2), 1);
        Checks.is("melts", place.hour(false), 6);
        Places.passTo(place, 8);
        Checks.is("a wall shades from the south alone", place.hour(false), 6 + 12);
        Places.passTo(place, 0);
        Checks.is("nor does it in the east", place.hour(false), 6 + 12);
    }

    private static void sixtyMinutesLeft() {
        Checks.sentence("Then (also if it was cloudy) all tools have 60 minutes left");
        for (boolean cloudy : new boolean[] {true, false}) {
            SnowSites place = Checks.placeWith(new int[] {1, 1, 1}, new int[] {6, 1});
            for (int tool = 0; tool < 5; tool++) {
                place.addTool(1);
                place.carve(tool, 1, 0, 1 + tool);
            }
            place.carve(0, 1, 1, 59);
            Checks.is("none left", place.tool(0, 1), 0);
            place.hour(cloudy);
            for (int tool = 0; tool < 5; tool++) {
                Checks.is("left of tool " + tool, place.tool(tool, 1), 60);
                Checks.is("used by tool " + tool, place.tool(tool, 2), tool == 0 ? 60 : tool + 1);
            }
        }
    }

    private static void hourIncreasesByOne() {
        Checks.sentence("and the hour increases by 1, or it is the hour 0 of the next day.");
        for (boolean cloudy : new boolean[] {true, false}) {
            for (int hour = 0; hour < 12; hour++) {
                SnowSites place = Places.atHour(hour);
                place.hour(cloudy);
                Checks.is("behind hour " + hour, place.whole(12), hour == 11 ? 0 : hour + 1);
                Checks.is("day behind hour " + hour, place.whole(13), hour == 11 ? 1 : 0);
            }
        }
    }

    private static void emptyPlace() {
        Checks.sentence("Promise 9: Returns the units that melt.");
        SnowSites place = new SnowSites();
        for (int hour = 0; hour < 12; hour++) {
            Checks.is("nothing can melt", place.hour(false), 0);
        }
        SnowSites full = Places.full();
        // Tops: one block of each kind or so a site; sides: those of site 7 alone, which nothing shades.
        int due = 0;
        for (int site = 0; site < 8; site++) {
            for (int level = 0; level < 6; level++) {
                int rate = new int[] {6, 4, 2}[full.block(site, level, 0)];
                due += (level == 5 ? rate : 0) + (site == 7 ? rate : 0);
            }
        }
        Checks.is("the full place", full.hour(false), due);
        Checks.is("melted in all", full.whole(8), due);
    }
}
