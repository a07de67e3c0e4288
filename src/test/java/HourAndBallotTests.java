/** Promises 9 to 11 and 16 to 18: hours, ballots and their count. */
public final class HourAndBallotTests {
    private HourAndBallotTests() {
    }

    public static void main(String[] args) {
        promise9RatesAndSides();
        promise9CloudsAndTools();
        promise9NotMoreThanItsVolume();
        promise9ByTheStacksBefore();
        promise9FiveTools();
        promise9Undo();
        promise10Ballot();
        promise11ClearBallots();
        promise16And18Rounds();
        promise16To18NoVotes();
        promise16To18AfterTheLastSculpture();
        promise17Votes();
        promise17Ties();
        promise17ExactlyHalf();
        Checks.finish();
    }

    /** Lone blocks: 6, 4 and 2 for the side and as much for the top, whatever the sun's side. */
    private static void promise9RatesAndSides() {
        for (int kind = 0; kind < 3; kind++) {
            SnowSites place = Checks.placeWith(new int[] {0, kind});
            int rate = 6 - 2 * kind;
            for (int hour = 0; hour < 8; hour++) {
                Checks.is("lone block of kind " + kind + " in hour " + hour, place.hour(false), 2 * rate);
            }
            Checks.is("volume of kind " + kind, place.block(0, 0, 1), 100 - 16 * rate >= 0 ? 100 - 16 * rate : 0);
        }
        SnowSites row = Checks.placeWith(new int[] {3, 0}, new int[] {4, 1}, new int[] {5, 2, 2});
        row.setWall(4, true);
        for (int hour = 0; hour < 12; hour++) {
            // East: site 5 (both its blocks) and the tops. South: all but site 4. West: site 3 and 5's upper one.
            int due = hour < 4 ? 6 + 4 + 2 + 2 + 2 : hour < 8 ? 6 + 6 + 4 + 2 + 2 + 2 : 6 + 6 + 4 + 2 + 2;
            if (hour < 8) {
                Checks.is("row in hour " + hour, row.hour(false), due);
            } else if (hour == 8) {
                Checks.is("loose block is smaller", row.block(3, 0, 1), 100 - 4 * 6 - 4 * 12);
                Checks.is("row in hour 8", row.hour(false), due);
            }
        }
    }

    private static void promise9CloudsAndTools() {
        SnowSites place = Checks.placeWith(new int[] {7, 0});
        place.addTool(10);
        place.carve(0, 7, 0, 20);
        Checks.is("clouds", place.hour(true), 0);
        Checks.is("minutes again, also with clouds", place.tool(0, 1), 60);
        Checks.is("used minutes stay", place.tool(0, 2), 2);
        Checks.is("hour", place.whole(12), 1);
        Checks.is("volume", place.site(7, 1), 80);
        place.carve(0, 7, 0, 20);
        Checks.is("sun", place.hour(false), 12);
        Checks.is("minutes again", place.tool(0, 1), 60);
        Checks.is("melted on the site", place.site(7, 4), 12);
        Checks.is("melted in all", place.whole(8), 12);
        for (int i = 0; i < 10; i++) {
            place.hour(true);
        }
        Checks.is("hour of the next day", place.whole(12), 0);
        Checks.is("day", place.whole(13), 1);
    }

    private static void promise9NotMoreThanItsVolume() {
        SnowSites place = Checks.placeWith(new int[] {0, 0, 0}, new int[] {1, 1});
        place.addTool(20);
        place.carve(0, 0, 1, 93);
        place.carve(0, 1, 0, 97);
        // Hour 0: the upper block of site 0 has 7 units left and two faces, site 1's has 3.
        Checks.is("melts its volume alone", place.hour(false), 7 + 3);
        Checks.is("blocks", place.site(0, 0), 1);
        Checks.is("sculptures", place.whole(5), 1);
        Checks.is("melted on site 0", place.site(0, 4), 7);
        Checks.is("melted on site 1", place.site(1, 4), 3);
        Checks.is("lower block", place.block(0, 0, 1), 100);
        Checks.is("a hollow site", place.hour(false), 12);
    }

    /** A block that goes in this hour still shades its neighbor, and still covers the one below. */
    private static void promise9ByTheStacksBefore() {
        SnowSites place = Checks.placeWith(new int[] {2, 1}, new int[] {3, 0});
        place.addTool(20);
        place.carve(0, 3, 0, 95);
        Checks.is("shaded by one that goes", place.hour(false), 4 + 5);
        Checks.is("not shaded any more", place.hour(false), 8);
        SnowSites middle = Checks.placeWith(new int[] {5, 0, 1, 2});
        middle.addTool(20);
        middle.carve(0, 5, 1, 98);
        Checks.is("the middle one goes", middle.hour(false), 6 + 2 + 4);
        Checks.is("blocks", middle.site(5, 0), 2);
        Checks.is("the ice came down", middle.block(5, 1, 0), 2);
        Checks.is("its volume", middle.block(5, 1, 1), 96);
    }

    private static void promise9FiveTools() {
        SnowSites place = Checks.placeWith(new int[] {4, 2}, new int[] {5, 2});
        for (int tool = 0; tool < 5; tool++) {
            place.addTool(10);
            place.carve(tool, 4, 0, 10 + tool);
        }
        place.hour(false);
        for (int tool = 0; tool < 5; tool++) {
            Checks.is("minutes of tool " + tool, place.tool(tool, 1), 60);
            Checks.is("used by tool " + tool, place.tool(tool, 2), tool == 0 ? 1 : 2);
        }
    }

    private static void promise9Undo() {
        SnowSites place = Checks.placeWith(new int[] {2, 1});
        for (int i = 0; i < 11; i++) {
            place.hour(true);
        }
        long before = place.digest();
        Checks.is("the hour 11", place.hour(false), 8);
        Checks.is("undo", place.undo(), 3);
        Checks.is("hour after undo", place.whole(12), 11);
        Checks.is("day after undo", place.whole(13), 0);
        Checks.is("melted after undo", place.whole(8), 0);
        Checks.is("volume after undo", place.site(2, 1), 100);
        place.hour(true);
        place.undo();
        place.hour(false);
        place.undo();
        Checks.is("one state less than before", place.digest() == before ? 1 : 0, 0);
    }

    private static void promise10Ballot() {
        SnowSites place = new SnowSites();
        int[][] bad = {{-1, -1, -1}, {8, -1, -1}, {0, 8, -1}, {0, -2, -1}, {0, 1, 8}, {0, 1, -2}, {0, -1, 1},
            {0, 0, -1}, {0, 0, 1}, {0, 1, 1}, {0, 1, 0}, {Integer.MIN_VALUE, 1, 2}, {0, Integer.MAX_VALUE, 1}};
        for (int[] b : bad) {
            Checks.badArgument("ballot " + b[0] + " " + b[1] + " " + b[2], place, () -> place.ballot(b[0], b[1], b[2]));
        }
        Checks.is("one site", place.ballot(7, -1, -1), 1);
        Checks.is("two sites", place.ballot(0, 7, -1), 2);
        for (int i = 3; i <= 20; i++) {
            Checks.is("three sites", place.ballot(2, 0, 1), i);
        }
        Checks.badState("a twenty-first", place, () -> place.ballot(0, -1, -1));
        for (int[] b : bad) {
            Checks.badArgument("full: ballot " + b[0] + " " + b[1] + " " + b[2], place,
                () -> place.ballot(b[0], b[1], b[2]));
        }
        Checks.is("undo", place.undo(), 3);
        Checks.is("ballots after undo", place.whole(14), 19);
    }

    private static void promise11ClearBallots() {
        SnowSites place = new SnowSites();
        Checks.is("none", place.clearBallots(), 0);
        place.ballot(1, -1, -1);
        place.ballot(2, -1, -1);
        Checks.is("two", place.clearBallots(), 2);
        Checks.is("none then", place.whole(14), 0);
        Checks.is("undo", place.undo(), 3);
        Checks.is("two again", place.whole(14), 2);
        place.undo();
        place.undo();
        Checks.is("the empty clearing was saved, too", place.undo(), 0);
    }

    private static void promise16And18Rounds() {
        SnowSites place = Checks.placeWith(new int[] {0, 0}, new int[] {3, 0}, new int[] {6, 0});
        place.ballot(0, 3, -1);
        place.ballot(3, 0, -1);
        place.ballot(6, 1, 3);
        place.ballot(6, 0, -1);
        place.ballot(5, 7, 1);
        Checks.is("rounds", place.rounds(), 3);
        Checks.is("winner", place.winner(), 0);
        Checks.is("votes of 6", place.votes(0, 6), 2);
        Checks.is("3 does not stand", place.votes(1, 3), SnowSites.NONE);
        place.ballot(6, -1, -1);
        Checks.is("more than half at once", place.rounds(), 1);
        Checks.is("winner then", place.winner(), 6);
        Checks.is("no round 1", place.votes(1, 6), SnowSites.NONE);
        SnowSites alone = Checks.placeWith(new int[] {4, 2});
        Checks.is("one alone: rounds", alone.rounds(), 1);
        Checks.is("one alone: winner", alone.winner(), 4);
        Checks.is("one alone: votes", alone.votes(0, 4), 0);
    }

    private static void promise16To18NoVotes() {
        SnowSites place = new SnowSites();
        place.ballot(0, 1, 2);
        Checks.is("no sculptures: rounds", place.rounds(), 0);
        Checks.is("no sculptures: winner", place.winner(), SnowSites.NONE);
        Checks.is("no sculptures: votes", place.votes(0, 0), SnowSites.NONE);
        SnowSites full = Checks.placeWith(new int[] {0, 0}, new int[] {1, 0}, new int[] {2, 0}, new int[] {3, 0},
            new int[] {4, 0}, new int[] {5, 0}, new int[] {6, 0}, new int[] {7, 0});
        Checks.is("eight sites: rounds", full.rounds(), 8);
        Checks.is("eight sites: winner", full.winner(), 0);
        for (int round = 0; round < 8; round++) {
            Checks.is("the last one that stands", full.votes(round, 7 - round), 0);
            if (round < 7) {
                Checks.is("it does not stand in the next", full.votes(round + 1, 7 - round), SnowSites.NONE);
            }
        }
    }

    private static void promise16To18AfterTheLastSculpture() {
        SnowSites place = Checks.placeWith(new int[] {0, 0});
        place.ballot(0, -1, -1);
        place.addTool(20);
        Checks.is("rounds", place.rounds(), 1);
        Checks.is("winner", place.winner(), 0);
        place.carve(0, 0, 0, 100);
        Checks.is("no winner then", place.winner(), SnowSites.NONE);
        Checks.is("no rounds then", place.rounds(), 0);
        Checks.is("no votes then", place.votes(0, 0), SnowSites.NONE);
        place.undo();
        Checks.is("winner after undo", place.winner(), 0);
    }

    private static void promise17Votes() {
        SnowSites place = Checks.placeWith(new int[] {2, 0}, new int[] {5, 0, 0});
        place.ballot(7, 2, 5);
        Checks.badArgument("round -1", place, () -> place.votes(-1, 0));
        Checks.badArgument("bad round before no site", place, () -> place.votes(-1, 8));
        Checks.noIndex("site -1", place, () -> place.votes(0, -1));
        Checks.noIndex("site 8", place, () -> place.votes(0, 8));
        Checks.noIndex("no site before no round", place, () -> place.votes(Integer.MAX_VALUE, 8));
        Checks.is("the first of its sites that stands", place.votes(0, 2), 1);
        Checks.is("the other one", place.votes(0, 5), 0);
        Checks.is("no sculpture", place.votes(0, 7), SnowSites.NONE);
        Checks.is("no such round", place.votes(Integer.MAX_VALUE, 2), SnowSites.NONE);
        Checks.is("no such round", place.votes(1, 2), SnowSites.NONE);
    }

    private static void promise17Ties() {
        SnowSites place = Checks.placeWith(new int[] {0, 0}, new int[] {1, 0, 0}, new int[] {2, 0}, new int[] {3, 0});
        place.ballot(3, -1, -1);
        place.ballot(1, -1, -1);
        // 0 and 2 have no votes and 100 units each: 2 goes first; then 0; then 3, which is the smaller one.
        Checks.is("2 goes", place.votes(1, 2), SnowSites.NONE);
        Checks.is("0 stays", place.votes(1, 0), 0);
        Checks.is("0 goes", place.votes(2, 0), SnowSites.NONE);
        Checks.is("3 stays", place.votes(2, 3), 1);
        Checks.is("3 goes", place.votes(3, 3), SnowSites.NONE);
        Checks.is("winner", place.winner(), 1);
        place.addTool(20);
        place.carve(0, 0, 0, 1);
        Checks.is("0 is smaller now, and goes", place.votes(1, 0), SnowSites.NONE);
        Checks.is("2 stays", place.votes(1, 2), 0);
    }

    private static void promise17ExactlyHalf() {
        SnowSites place = Checks.placeWith(new int[] {0, 0, 0}, new int[] {1, 0});
        place.ballot(0, -1, -1);
        place.ballot(1, -1, -1);
        place.ballot(4, -1, -1);
        Checks.is("half is not more than half", place.rounds(), 2);
        Checks.is("the larger one wins", place.winner(), 0);
        Checks.is("its votes", place.votes(1, 0), 1);
        place.ballot(1, 0, -1);
        Checks.is("2 of 3 that count", place.rounds(), 1);
        Checks.is("winner", place.winner(), 1);
    }
}
