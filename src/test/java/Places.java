/** Places that the tests about bounds begin with; each call makes the same one anew. */
final class Places {
    private Places() {
    }

    static SnowSites withSnow(int units) {
        SnowSites place = new SnowSites();
        if (units > 0) {
            place.addSnow(units);
        }
        return place;
    }

    /** So many blocks of this kind in the stock, and no snow. */
    static SnowSites withStock(int kind, int blocks) {
        SnowSites place = new SnowSites();
        if (blocks > 0) {
            place.addSnow(100 * blocks);
            place.press(kind, blocks);
        }
        return place;
    }

    static SnowSites withTools(int tools) {
        SnowSites place = new SnowSites();
        for (int i = 0; i < tools; i++) {
            place.addTool(20);
        }
        return place;
    }

    static SnowSites withBallots(int ballots) {
        SnowSites place = new SnowSites();
        for (int i = 0; i < ballots; i++) {
            place.ballot(i % 8, -1, -1);
        }
        return place;
    }

    static SnowSites withText(String text) {
        SnowSites place = new SnowSites();
        Checks.typeAll(place, text);
        return place;
    }

    /** A place on which these sculptures stand, in this hour. */
    static SnowSites atHour(int hour, int[]... sculptures) {
        SnowSites place = Checks.placeWith(sculptures);
        passTo(place, hour);
        return place;
    }

    /** Lets clouds pass until this hour comes. */
    static void passTo(SnowSites place, int hour) {
        for (int i = 0; i < 12 && place.whole(12) != hour; i++) {
            place.hour(true);
        }
    }

    /** Carves a block down to this volume, with the tool 0, which is added if there is none. */
    static void carveTo(SnowSites place, int site, int level, int volume) {
        if (place.whole(10) == 0) {
            place.addTool(20);
        }
        int units = place.block(site, level, 1) - volume;
        if (units > 0) {
            place.carve(0, site, level, units);
        }
    }

    /** Something of everything, four saved states that differ, and a text that does something. */
    static SnowSites busy() {
        SnowSites place = Checks.placeWith(new int[] {2, 0, 1}, new int[] {3, 2, 1, 0}, new int[] {7, 1});
        place.addSnow(2000);
        place.addTool(5);
        place.addTool(9);
        place.setWall(3, true);
        place.ballot(3, 2, 7);
        place.ballot(2, -1, -1);
        Checks.typeAll(place, "snow 1;stack 2 2;cloud 3;wall 2;");
        place.carve(0, 2, 1, 30);
        place.hour(false);
        place.carve(1, 3, 1, 30);
        place.ballot(7, 0, 2);
        return place;
    }

    /** As much of everything as there can be. */
    static SnowSites full() {
        SnowSites place = new SnowSites();
        for (int round = 0; round < 3; round++) {
            for (int kind = 0; kind < 3; kind++) {
                fillStock(place, kind);
            }
            stackSixteen(place, round);
        }
        for (int site = 0; site < 8; site++) {
            place.setWall(site, true);
        }
        for (int i = 0; i < 20; i++) {
            place.ballot(i % 8, (i + 3) % 8, (i + 6) % 8);
        }
        for (int i = 0; i < 5; i++) {
            place.addTool(20 - i);
        }
        for (int kind = 0; kind < 3; kind++) {
            fillStock(place, kind);
        }
        place.addSnow(9999 - place.whole(0));
        Checks.typeAll(place, "again;".repeat(25));
        return place;
    }

    /** Six blocks of ice and a wall on each site. */
    static SnowSites iceBehindWalls() {
        SnowSites place = new SnowSites();
        for (int i = 0; i < 4; i++) {
            place.addSnow(1200);
            place.press(2, 12);
        }
        for (int site = 0; site < 8; site++) {
            place.setWall(site, true);
            for (int level = 0; level < 6; level++) {
                place.stack(site, 2);
            }
        }
        return place;
    }

    private static void fillStock(SnowSites place, int kind) {
        int blocks = 50 - place.whole(1 + kind);
        if (blocks > 0) {
            int missing = 100 * blocks - place.whole(0);
            if (missing > 0) {
                place.addSnow(missing);
            }
            place.press(kind, blocks);
        }
    }

    private static void stackSixteen(SnowSites place, int round) {
        for (int site = 0; site < 8; site++) {
            place.stack(site, (site + round) % 3);
            place.stack(site, (site + 2 * round + 1) % 3);
        }
    }
}
