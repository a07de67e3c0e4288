/** Promises 24 to 28: order text, undo and checksum. */
public final class OrderTests {
    private static final String LONGEST = "0123456789".repeat(15);

    private OrderTests() {
    }

    public static void main(String[] args) {
        promise24Type();
        promise25ClearOrders();
        promise26Faults();
        promise26NoFaults();
        promise26EveryOrder();
        promise26StopsAtARefusal();
        promise26HoursOfOrders();
        promise26FullTexts();
        promise26OrdersOneByOne();
        promise26AfterAFault();
        promise27Undo();
        promise27OrderTextStays();
        promise27WholeState();
        promise27ReplacedBallot();
        promise28Digest();
        promise28DigestByItsValues();
        Checks.finish();
    }

    private static void promise24Type() {
        SnowSites place = new SnowSites();
        Checks.badArgument("value -1", place, () -> place.type(-1));
        Checks.badArgument("value 128", place, () -> place.type(128));
        Checks.is("the byte 0", place.type(0), 1);
        Checks.is("the byte 127", place.type(127), 2);
        Checks.is("not undoable", place.digest(), fresh(2).digest());
        for (int length = 3; length <= 150; length++) {
            Checks.is("length", place.type(' '), length);
        }
        Checks.badState("a full text", place, () -> place.type(' '));
        Checks.badArgument("both: argument first", place, () -> place.type(128));
        Checks.is("length of the text", place.whole(15), 150);
    }

    private static SnowSites fresh(int spaces) {
        SnowSites place = new SnowSites();
        for (int i = 0; i < spaces; i++) {
            place.type(' ');
        }
        return place;
    }

    private static void promise25ClearOrders() {
        SnowSites place = new SnowSites();
        Checks.is("empty", place.clearOrders(), 0);
        Checks.typeAll(place, LONGEST);
        Checks.is("150", place.clearOrders(), 150);
        Checks.is("then", place.whole(15), 0);
        Checks.badState("not undoable", place, () -> place.undo());
        Checks.is("the old bytes are gone", Checks.run(place, "snow 5;"), 1);
        Checks.is("the new ones alone", place.whole(0), 5);
    }

    private static void fault(String text, int due) {
        SnowSites place = new SnowSites();
        Checks.typeAll(place, text);
        long before = place.digest();
        Checks.is("fault of '" + text + "'", place.runOrders(), -10 - due);
        Checks.is("'" + text + "' changes nothing", place.digest(), before);
        Checks.is("'" + text + "' stays", place.clearOrders(), text.length());
    }

    private static void promise26Faults() {
        fault("snow", 4);
        fault("snow ", 5);
        fault("snow 5", 6);
        fault("snow 5 ", 7);
        fault("snow 1234", 9);
        fault("press 1", 7);
        fault("press 1 ", 8);
        fault("again", 5);
        fault("again ", 6);
        fault("  sno", 2);
        fault("sno", 0);
        fault("sno ", 0);
        fault("sno;", 0);
        fault("snows 5;", 0);
        fault("snow5 ;", 4);
        fault("snow;", 4);
        fault("snow ;", 5);
        fault("snow  x;", 6);
        fault("snow -5;", 5);
        fault("snow 12345;", 9);
        fault("snow 00001;", 9);
        fault("snow 12a;", 7);
        fault("snow 5 6;", 7);
        fault("snow 5  x", 8);
        fault("snow 5,", 6);
        fault("press 1;", 7);
        fault("press 1 ;", 8);
        fault("press 1 2 3;", 10);
        fault("press 1x2;", 7);
        fault("carve 0 0 0;", 11);
        fault("carve 0 0 0 1 1;", 14);
        fault("again 1;", 6);
        fault("again again;", 6);
        fault("Again;", 0);
        fault("aGain;", 0);
        fault("againX;", 5);
        fault(";", 0);
        fault("5", 0);
        fault(" \t", 1);
        fault("snow 5;;", 7);
        fault("snow 5;  snow 6; snaw 7;", 17);
        fault("snow 5; q", 8);
        fault("snow 5;\u0000", 7);
        fault("snow 5;\u007f", 7);
        fault("snow\t5;", 4);
        fault("tools 5;", 0);
        fault("xnow 5;", 0);
        fault("sun 5 ; tun 5;", 8);
        // The first of several faults counts.
        fault("sno 5; q;", 0);
        fault("press 1; q;", 7);
        fault("press; q;", 5);
        fault("snow 5 6; q;", 7);
        fault("snow 5 press 6 7; q;", 7);
        fault("s", 0);
        fault("z".repeat(150), 0);
        fault("snow 5;" + " ".repeat(142) + "s", 149);
        fault(" ".repeat(146) + "snow", 150);
        fault(" ".repeat(145) + "again", 150);
    }

    private static void promise26NoFaults() {
        String[] texts = {"", " ", " ".repeat(150)};
        for (String text : texts) {
            SnowSites place = new SnowSites();
            Checks.is("nothing to do", Checks.run(place, text), 0);
            Checks.is("a state was saved", place.undo(), 0);
        }
        SnowSites place = new SnowSites();
        Checks.is("spaces and zeros", Checks.run(place, "  snow   0007  ;snow 0500;   "), 2);
        Checks.is("snow", place.whole(0), 507);
        Checks.is("the text stays", place.whole(15), 29);
        Checks.is("run again", place.runOrders(), 2);
        Checks.is("snow then", place.whole(0), 1014);
    }

    private static void promise26EveryOrder() {
        SnowSites place = new SnowSites();
        Checks.is("nine orders", Checks.run(place,
            "snow 9999;press 0 3;press 2 4;stack 7 2;stack 7 0;stack 7 0;tool 9;carve 0 7 1 30;wall 7;sun 5;cloud 9;again;"),
            12);
        Checks.is("snow", place.whole(0), 9999 - 700 + 30);
        Checks.is("stock 0", place.whole(1), 1);
        Checks.is("stock 2", place.whole(3), 3);
        Checks.is("blocks", place.site(7, 0), 3);
        Checks.is("wall", place.site(7, 2), 1);
        Checks.is("used", place.tool(0, 2), 4);
        Checks.is("minutes", place.tool(0, 1), 60);
        // Four hours of the east: 2 + 6 + 12; one of the south behind the wall: 6.
        Checks.is("melted", place.whole(8), 4 * 20 + 6);
        Checks.is("hour", place.whole(12), 2);
        Checks.is("day", place.whole(13), 1);
        Checks.is("put back", place.whole(9), 30);
        Checks.is("one state alone was saved", place.undo(), 0);
        Checks.is("snow after undo", place.whole(0), 0);
        Checks.is("tools after undo", place.whole(10), 0);
        Checks.is("text after undo", place.whole(15) > 0 ? 1 : 0, 1);
    }

    private static void stops(String text, int done, int snow) {
        SnowSites place = new SnowSites();
        Checks.is("orders of '" + text + "'", Checks.run(place, text), done);
        Checks.is("snow after '" + text + "'", place.whole(0), snow);
        Checks.is("states after '" + text + "'", place.undo(), 0);
        Checks.is("snow after undo of '" + text + "'", place.whole(0), 0);
    }

    private static void promise26StopsAtARefusal() {
        stops("snow 0;snow 5;", 0, 0);
        stops("snow 5;snow 9999;snow 6;", 1, 5);
        stops("snow 500;press 3 1;snow 6;", 1, 500);
        stops("snow 500;press 0 0;snow 6;", 1, 500);
        stops("snow 500;press 0 51;snow 6;", 1, 500);
        stops("snow 500;press 0 6;snow 6;", 1, 500);
        stops("snow 500;stack 8 0;snow 6;", 1, 500);
        stops("snow 500;press 0 1;stack 8 0;snow 6;", 2, 400);
        stops("snow 800;press 2 7;stack 7 2;stack 7 2;stack 7 2;stack 7 2;stack 7 2;stack 7 2;stack 7 2;snow 6;", 8, 100);
        stops("snow 500;stack 0 3;snow 6;", 1, 500);
        stops("snow 500;stack 0 0;snow 6;", 1, 500);
        stops("snow 500;tool 0;snow 6;", 1, 500);
        stops("snow 500;tool 21;snow 6;", 1, 500);
        stops("tool 1;tool 1;tool 1;tool 1;tool 1;tool 1;snow 6;", 5, 0);
        stops("snow 500;carve 0 0 0 1;snow 6;", 1, 500);
        stops("tool 2;carve 0 8 0 1;snow 6;", 1, 0);
        stops("tool 2;carve 0 0 6 1;snow 6;", 1, 0);
        stops("tool 2;carve 0 0 0 0;snow 6;", 1, 0);
        stops("tool 2;carve 0 0 0 101;snow 6;", 1, 0);
        stops("tool 2;carve 0 0 0 1;snow 6;", 1, 0);
        stops("snow 500;wall 8;snow 6;", 1, 500);
        stops("snow 500;sun 0;snow 6;", 1, 500);
        stops("snow 500;sun 25;snow 6;", 1, 500);
        stops("snow 500;cloud 0;snow 6;", 1, 500);
        stops("snow 500;cloud 25;snow 6;", 1, 500);
        stops("snow 500;again;wall 0;snow 6;", 4, 506);
    }

    private static void promise26HoursOfOrders() {
        SnowSites place = Checks.placeWith(new int[] {4, 2});
        Checks.is("sun 24", Checks.run(place, "sun 24;"), 1);
        Checks.is("hour", place.whole(12), 0);
        Checks.is("day", place.whole(13), 2);
        Checks.is("melted", place.whole(8), 24 * 4);
        Checks.is("cloud 24", Checks.run(place, "cloud 24;cloud 1;sun 1;"), 3);
        Checks.is("hour then", place.whole(12), 2);
        Checks.is("melted then", place.whole(8), 100);
        Checks.is("states", place.undo(), 3);
        Checks.is("day after undo", place.whole(13), 2);
    }

    private static void promise26FullTexts() {
        SnowSites place = new SnowSites();
        Checks.is("25 orders", Checks.run(place, "again;".repeat(25)), 25);
        Checks.is("25 orders with numbers", Checks.run(place, "sun 1;".repeat(25)), 25);
        Checks.is("hour", place.whole(12), 1);
        Checks.is("21 long ones", Checks.run(place, "sun 24;".repeat(21) + "   "), 21);
        Checks.is("day", place.whole(13), 2 + 42);
    }

    /** Each order does what its call does, and nothing else: a twin that is called tells the same then. */
    private static void promise26OrdersOneByOne() {
        twins("snow 9;", p -> p.addSnow(9));
        twins("press 0 2;", p -> p.press(0, 2));
        twins("press 2 1;", p -> p.press(2, 1));
        twins("stack 0 1;", p -> p.stack(0, 1));
        twins("stack 1 0;", p -> p.stack(1, 0));
        twins("stack 7 2;", p -> p.stack(7, 2));
        twins("tool 6;", p -> p.addTool(6));
        twins("carve 0 3 2 9;", p -> p.carve(0, 3, 2, 9));
        twins("carve 1 2 0 21;", p -> p.carve(1, 2, 0, 21));
        twins("wall 0;", p -> p.setWall(0, true));
        twins("wall 1;", p -> p.setWall(1, true));
        twins("wall 7;", p -> p.setWall(7, true));
        twins("sun 1;", p -> p.hour(false));
        twins("cloud 1;", p -> p.hour(true));
        twins("again;", p -> p.recycle());
    }

    private static void twins(String order, Twins.Call call) {
        SnowSites told = twin();
        SnowSites called = twin();
        Checks.typeAll(called, order);
        Checks.is(order, Checks.run(told, order), 1);
        call.on(called);
        Twins.same(order, told, called);
    }

    /** With offcuts, used minutes and room for everything, so that no order is without an effect. */
    private static SnowSites twin() {
        SnowSites place = Checks.placeWith(new int[] {2, 0, 1}, new int[] {3, 2, 1, 0});
        place.addSnow(2000);
        place.addTool(5);
        place.addTool(9);
        place.carve(0, 2, 1, 30);
        place.hour(false);
        place.carve(1, 3, 1, 30);
        return place;
    }

    private static void promise26AfterAFault() {
        SnowSites place = new SnowSites();
        Checks.is("a fault", Checks.run(place, "snow 5;x"), -17);
        Checks.is("no fault then", Checks.run(place, "snow 5;"), 1);
        Checks.is("the same fault", Checks.run(place, "snow 5;x"), -17);
        Checks.is("an empty text then", Checks.run(place, ""), 0);
        Checks.is("snow", place.whole(0), 5);
    }

    private static void promise27Undo() {
        SnowSites place = new SnowSites();
        Checks.badState("empty", place, () -> place.undo());
        for (int i = 0; i < 6; i++) {
            place.addSnow(1);
        }
        for (int left = 3; left >= 0; left--) {
            Checks.is("states left", place.undo(), left);
            Checks.is("snow", place.whole(0), 2 + left);
        }
        Checks.badState("the older ones were dropped", place, () -> place.undo());
        for (int i = 0; i < 3; i++) {
            place.addSnow(10);
            place.addSnow(10);
            Checks.is("again", place.undo(), i + 1);
        }
        Checks.is("snow", place.whole(0), 32);
        Checks.is("undo", place.undo(), 2);
        Checks.is("snow", place.whole(0), 22);
    }

    private static void promise27OrderTextStays() {
        SnowSites place = new SnowSites();
        place.addSnow(5);
        Checks.typeAll(place, "snow 7;");
        Checks.is("undo", place.undo(), 0);
        Checks.is("length", place.whole(15), 7);
        Checks.is("run", place.runOrders(), 1);
        Checks.is("snow", place.whole(0), 7);
        place.clearOrders();
        place.undo();
        Checks.is("a cleared text stays cleared", place.whole(15), 0);
    }

    /** All that a call can change comes back, whatever was done after it. */
    private static void promise27WholeState() {
        SnowSites place = Checks.placeWith(new int[] {2, 0, 1}, new int[] {3, 2});
        place.addTool(5);
        place.addTool(9);
        place.carve(0, 2, 0, 41);
        place.setWall(3, true);
        place.ballot(2, 3, -1);
        place.hour(false);
        place.addSnow(100);
        place.addSnow(100);
        long before = place.digest();
        Checks.run(place, "cloud 5;press 1 1;stack 2 0;stack 5 2;tool 7;carve 0 2 1 9;carve 2 3 0 80;wall 2;sun 9;again;");
        place.clearOrders();
        Checks.is("something was changed", place.digest() == before ? 1 : 0, 0);
        place.undo();
        Checks.is("states", place.undo(), 2);
        place.undo();
        place.undo();
        place.addSnow(100);
        place.ballot(3, 2, 1);
        place.clearBallots();
        place.addSnow(1);
        place.undo();
        place.undo();
        Checks.is("votes of 2", place.votes(0, 2), 1);
        Checks.is("votes of 3", place.votes(0, 3), 1);
        Checks.is("used", place.tool(0, 2), 9);
        Checks.is("tools", place.whole(10), 2);
        Checks.is("a new tool is unused", place.addTool(7), 2);
        Checks.is("its used minutes", place.tool(2, 2), 0);
        Checks.is("its minutes", place.tool(2, 1), 60);
    }

    /** A ballot that was cleared comes back by undo, also where another one took its place. */
    private static void promise27ReplacedBallot() {
        SnowSites place = Checks.placeWith(new int[] {1, 0}, new int[] {5, 0});
        place.ballot(5, -1, -1);
        place.clearBallots();
        place.ballot(1, -1, -1);
        Checks.is("the new one", place.winner(), 1);
        place.undo();
        place.undo();
        Checks.is("the old one", place.winner(), 5);
        Checks.is("its votes", place.votes(0, 5), 1);
    }

    private static void promise28Digest() {
        SnowSites place = new SnowSites();
        long hash = 43420;
        for (int i = 0; i < 17 + 40 + 1; i++) {
            hash = 31 * hash;
        }
        hash = 31 * (31 * hash - 1) - 1;
        Checks.is("a new object", place.digest(), hash);
        Checks.is("again", place.digest(), hash);
        place.type(' ');
        Checks.is("the text's length counts", place.digest() == hash ? 1 : 0, 0);
        place.clearOrders();
        Checks.is("as before", place.digest(), hash);
        place.recycle();
        Checks.is("the states count", place.digest() == hash ? 1 : 0, 0);
    }

    private static void promise28DigestByItsValues() {
        SnowSites place = Checks.placeWith(new int[] {2, 0, 1}, new int[] {3, 2}, new int[] {7, 1});
        place.addTool(5);
        place.addTool(9);
        place.ballot(3, 2, -1);
        place.ballot(2, -1, -1);
        place.carve(1, 2, 0, 41);
        place.hour(false);
        place.undo();
        long hash = 31 * 43420L + 3;
        for (int what = 0; what < 16; what++) {
            hash = 31 * hash + place.whole(what);
        }
        for (int site = 0; site < 8; site++) {
            for (int what = 0; what < 5; what++) {
                hash = 31 * hash + place.site(site, what);
            }
            for (int level = 0; level < place.site(site, 0); level++) {
                for (int what = 0; what < 3; what++) {
                    hash = 31 * hash + place.block(site, level, what);
                }
            }
        }
        for (int tool = 0; tool < 2; tool++) {
            for (int what = 0; what < 3; what++) {
                hash = 31 * hash + place.tool(tool, what);
            }
        }
        hash = 31 * hash + place.rounds();
        for (int round = 0; round < place.rounds(); round++) {
            for (int site = 0; site < 8; site++) {
                hash = 31 * hash + place.votes(round, site);
            }
        }
        hash = 31 * (31 * hash + place.winner()) + place.bestWall();
        Checks.is("digest", place.digest(), hash);
    }
}
