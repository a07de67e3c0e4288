/** The document's term "TEXTS OF ORDERS": both sides of each bound, and each byte at each kind of place. */
public final class TermsOfTextTests {
    private static final String[] WORDS = {"snow", "press", "stack", "tool", "carve", "wall", "sun", "cloud", "again"};
    private static final int[] NUMBERS = {1, 2, 2, 1, 4, 1, 1, 1, 0};
    private static final int TOO_SOON = -1;
    private static final int WORD = -2;
    private static final int GOOD = -3;

    private TermsOfTextTests() {
    }

    public static void main(String[] args) {
        atMost150Bytes();
        textWithoutOrders();
        everyByteAtAnOrder();
        everyByteBehindAWord();
        everyByteAtANumber();
        everyByteBehindANumber();
        everyByteBehindASemicolon();
        eachWordsNumbers();
        noSuchWord();
        wordFoundWhenComplete();
        oneToFourDigits();
        zerosInFront();
        atLeastOneSpace();
        spacesElsewhere();
        textThatEndsTooSoon();
        firstFaultOfSeveral();
        faultOfThisTextAlone();
        outOfRangeIsNoFault();
        faultAtTheLastByte();
        withAFaultNothingIsDone();
        untilOneWouldThrow();
        hoursOfSunAndCloud();
        wallIsBuilt();
        fullTexts();
        runSavesOneState();
        Checks.finish();
    }

    private static void runs(String text, int orders) {
        SnowSites place = Places.withText(text);
        Checks.is("run of '" + text + "'", place.runOrders(), orders);
        Checks.is("its text stays", place.whole(15), text.length());
        Checks.is("its saved state", place.undo(), 0);
    }

    private static void fault(String text, int due) {
        Twins.answers("run of '" + text + "'", () -> Places.withText(text), SnowSites::runOrders, -10 - due);
    }

    private static void atMost150Bytes() {
        Checks.sentence("The order text has at most 150 bytes.");
        SnowSites place = new SnowSites();
        Checks.is("none at first", place.whole(15), 0);
        for (int length = 1; length <= 150; length++) {
            Checks.is("length", place.type(32), length);
        }
        Twins.badState("byte 151", () -> Places.withText("again;".repeat(25)), p -> p.type(';'));
        Checks.is("all of them", place.clearOrders(), 150);
        Checks.is("room again", place.type(32), 1);
    }

    private static void textWithoutOrders() {
        Checks.sentence("(perhaps none: a text that is empty, or has spaces alone, has no fault)");
        runs("", 0);
        runs(" ", 0);
        runs(" ".repeat(149), 0);
        runs(" ".repeat(150), 0);
    }

    /** The text with each byte behind it: letters, digits, the space, the semicolon and all other bytes. */
    private static void bytes(String text, int orders, int letter, int digit, int space, int semicolon, int other) {
        for (int value = 0; value < 128; value++) {
            int due = other;
            if (value >= 97 && value <= 122) {
                due = letter;
            } else if (value >= 48 && value <= 57) {
                due = digit;
            } else if (value == 32) {
                due = space;
            } else if (value == 59) {
                due = semicolon;
            }
            int fault = due == TOO_SOON ? text.length() + 1 : due == WORD ? text.lastIndexOf(' ') + 1 : due;
            SnowSites place = Places.withText(text);
            place.type(value);
            Checks.is("'" + text + "' and byte " + value, place.runOrders(), due == GOOD ? orders : -10 - fault);
        }
    }

    private static void everyByteAtAnOrder() {
        Checks.sentence("a sequence of orders, each of which is a word of letters a to z");
        bytes("", 0, WORD, 0, GOOD, 0, 0);
        bytes("  ", 0, WORD, 2, GOOD, 2, 2);
    }

    private static void everyByteBehindAWord() {
        Checks.sentence("a word of letters a to z, followed by its numbers, each with at least one space (byte 32) in front");
        bytes("snow", 0, WORD, 4, TOO_SOON, 4, 4);
        bytes(" press", 0, WORD, 6, TOO_SOON, 6, 6);
        bytes("snx", 0, WORD, WORD, WORD, WORD, WORD);
        bytes("  againx", 0, WORD, WORD, WORD, WORD, WORD);
        bytes("again", 1, WORD, 5, TOO_SOON, GOOD, 5);
    }

    private static void everyByteAtANumber() {
        Checks.sentence("each of one to four digits");
        bytes("snow ", 0, 5, TOO_SOON, TOO_SOON, 5, 5);
        bytes("carve 1 2 3  ", 0, 13, TOO_SOON, TOO_SOON, 13, 13);
        bytes("press 1 ", 0, 8, TOO_SOON, TOO_SOON, 8, 8);
    }

    private static void everyByteBehindANumber() {
        Checks.sentence("followed by its numbers [..] and a semicolon.");
        bytes("snow 5", 1, 6, TOO_SOON, TOO_SOON, GOOD, 6);
        bytes("snow 555", 1, 8, TOO_SOON, TOO_SOON, GOOD, 8);
        bytes("snow 5555", 1, 9, 9, TOO_SOON, GOOD, 9);
        bytes("snow 5 ", 1, 7, 7, TOO_SOON, GOOD, 7);
        bytes("press 1", 0, 7, TOO_SOON, TOO_SOON, 7, 7);
        bytes("press 1111", 0, 10, 10, TOO_SOON, 10, 10);
        bytes("again ", 1, 6, 6, TOO_SOON, GOOD, 6);
    }

    private static void everyByteBehindASemicolon() {
        Checks.sentence("It is a sequence of orders");
        bytes("again;", 1, 6, 6, GOOD, 6, 6);
        bytes("snow 5; ", 1, WORD, 8, GOOD, 8, 8);
    }

    private static String order(int word, int numbers) {
        return WORDS[word] + " 1".repeat(numbers);
    }

    private static void eachWordsNumbers() {
        Checks.sentence("The words are: snow n, press k n, stack s k, tool v, carve t s l n, wall s, sun n, cloud n, again");
        for (int word = 0; word < WORDS.length; word++) {
            String just = order(word, NUMBERS[word]);
            for (int fewer = 0; fewer < NUMBERS[word]; fewer++) {
                fault(order(word, fewer) + ";", order(word, fewer).length());
                fault(order(word, fewer) + " ;", order(word, fewer).length() + 1);
            }
            fault(just + " 1;", just.length() + 1);
            Checks.is("no fault: " + just, Places.withText(just + ";").runOrders() >= 0 ? 1 : 0, 1);
        }
    }

    private static void noSuchWord() {
        Checks.sentence("A word that is not one of these is at fault with its first byte");
        for (String word : WORDS) {
            String shorter = word.substring(0, word.length() - 1);
            String turned = word.substring(1) + word.charAt(0);
            String[] others = {shorter, word.substring(1), turned, word + word, word + "s", "a" + word, "x" + word.substring(1),
                shorter + "x"};
            for (String wrong : others) {
                fault(wrong + " 1;", 0);
                fault("again; " + wrong + ";", 7);
            }
            fault(word.toUpperCase() + " 1;", 0);
            fault(shorter + word.substring(word.length() - 1).toUpperCase() + " 1;", 0);
        }
        fault("z".repeat(150), 0);
    }

    private static void wordFoundWhenComplete() {
        Checks.sentence("found when the word is complete: when a byte that is no letter, or the end of the text, follows it.");
        fault("sno", 0);
        fault("   sno", 3);
        fault("snox", 0);
        fault("sno ", 0);
        fault("sno1", 0);
        fault("sno;", 0);
        fault("sno" + (char) 0, 0);
        fault("again;sno", 6);
        fault("snow", 4);
        fault("snow1", 4);
        fault("snow" + (char) 0, 4);
    }

    private static void oneToFourDigits() {
        Checks.sentence("its numbers, each of one to four digits");
        runs("snow 1;", 1);
        runs("snow 12;", 1);
        runs("snow 123;", 1);
        runs("snow 1234;", 1);
        SnowSites most = Places.withText("snow 9999;");
        most.runOrders();
        Checks.is("the largest number", most.whole(0), 9999);
        Checks.sentence("a fifth digit cannot stand");
        fault("snow 12345;", 9);
        fault("snow 00001;", 9);
        fault("press 1 12345;", 12);
        fault("press 12345 1;", 10);
        fault("carve 1 1 1 99999", 16);
        fault("wall 00000", 9);
    }

    private static void zerosInFront() {
        Checks.sentence("(zeros in front are allowed)");
        SnowSites place = Places.withText("snow 0007;snow 030;snow 0500;");
        Checks.is("three orders", place.runOrders(), 3);
        Checks.is("snow", place.whole(0), 537);
        runs("wall 0000;wall 0007;", 2);
        runs("wall 0008;", 0);
    }

    private static void atLeastOneSpace() {
        Checks.sentence("and with at least one space (byte 32) in front");
        fault("snow5;", 4);
        fault("wall" + (char) 9 + "5;", 4);
        fault("press 1,2;", 7);
        runs("wall 5;", 1);
        runs("wall  5;", 1);
        runs("wall" + " ".repeat(144) + "5;", 1);
        runs("snow 999;press 0   3;", 2);
    }

    private static void spacesElsewhere() {
        Checks.sentence("Spaces may also stand in front of an order, in front of a semicolon, and at the end.");
        runs(" again;", 1);
        runs("again ;", 1);
        runs("again; ", 1);
        runs("   again   ;   again  ;  ", 2);
        runs("wall 5 ;wall 6  ;", 2);
        runs(" ".repeat(144) + "again;", 1);
        runs("again;" + " ".repeat(144), 1);
        runs("again" + " ".repeat(144) + ";", 1);
        runs("again;again;", 2);
        Checks.sentence("(Spaces may stand nowhere else.)");
        fault("sn ow 5;", 0);
        fault("snow 5 5;", 7);
        fault("aga in;", 0);
    }

    private static void textThatEndsTooSoon() {
        Checks.sentence("or the length of the text if it ends too soon.");
        String text = "again; carve 1 22 333 4444 ;";
        for (int length = 12; length < text.length(); length++) {
            fault(text.substring(0, length), length);
        }
        runs(text, 1);
        fault(" ".repeat(145) + "again", 150);
        fault(" ".repeat(143) + "press 5", 150);
        fault("again;".repeat(24) + "again ", 150);
    }

    private static void firstFaultOfSeveral() {
        Checks.sentence("The fault of an order text is the index of the first byte that cannot stand at its place");
        fault("q; w; e;", 0);
        fault("again; w; e;", 7);
        fault("again;; e;", 6);
        fault("snow 5 6; q", 7);
        fault("snow x; q", 5);
        fault(";;", 0);
        fault("again again;", 6);
        fault("again;5", 6);
        fault("again;,", 6);
        // Where an order would fit in at the fault, the text is not read on from there.
        fault("snow ; q;", 5);
        fault("press 1; q;", 7);
        fault("snow again; q;", 5);
        fault("press 1 again; q;", 8);
        fault("snow 5 again; q;", 7);
        fault("again again; q;", 6);
        fault("q again; w;", 0);
    }

    private static void faultOfThisTextAlone() {
        Checks.sentence("To run an order text means: if it has a fault, nothing is done; otherwise the orders are carried out");
        SnowSites place = new SnowSites();
        Checks.is("a fault", Checks.run(place, "snow 5;x"), -17);
        Checks.is("the same again", place.runOrders(), -17);
        Checks.is("a text without one", Checks.run(place, "snow 5;"), 1);
        Checks.is("a fault that goes away with the next byte", Checks.run(place, "snow 5"), -16);
        place.type(';');
        Checks.is("then it runs", place.runOrders(), 1);
        Checks.is("an empty text", Checks.run(place, ""), 0);
        Checks.is("snow", place.whole(0), 10);
    }

    private static void outOfRangeIsNoFault() {
        Checks.sentence("(That a number is out of its range is no fault.)");
        runs("snow 0;", 0);
        runs("press 3 1;", 0);
        runs("press 9999 9999;", 0);
        runs("stack 8 0;", 0);
        runs("tool 21;", 0);
        runs("carve 9999 9999 9999 9999;", 0);
        runs("wall 8;", 0);
        runs("sun 25;", 0);
        runs("cloud 0;", 0);
        fault("wall 8;x", 7);
    }

    private static void faultAtTheLastByte() {
        Checks.sentence("-10 minus the fault if it has one.");
        fault("x", 0);
        fault(" ".repeat(149) + "x", 149);
        fault(" ".repeat(149) + ";", 149);
        fault("again;".repeat(24) + "     1", 149);
        fault(" ".repeat(140) + "wall 12345", 149);
    }

    private static void withAFaultNothingIsDone() {
        Checks.sentence("if it has a fault, nothing is done");
        fault("snow 5;tool 3;wall 2;x", 21);
        fault("snow 5;tool 3;wall 2;;", 21);
        fault("snow 5;tool 3;wall 2;0", 21);
        fault("snow 5;tool 3;wall 2;snow", 25);
        fault("snow 5;tool 3;wall 2;snow 1", 27);
        Twins.answers("a busy place", () -> retyped("snow 1;press 0 1;stack 5 0;wall 5;sun 3;again;again"),
            SnowSites::runOrders, -10 - 51);
    }

    private static SnowSites retyped(String text) {
        SnowSites place = Places.busy();
        Checks.typeAll(place, text);
        return place;
    }

    /** The order that would throw and the one behind it are left out; those before it stay done. */
    private static void stopsAt(String before, String order) {
        SnowSites told = retyped(before + order + "wall 6;");
        Checks.is("orders before '" + order + "'", told.runOrders(), before.split(";", -1).length - 1);
        told.clearOrders();
        SnowSites due = retyped(before);
        due.runOrders();
        due.clearOrders();
        Twins.same("after '" + before + order + "'", told, due);
    }

    private static void goesOnBehind(String before, String order) {
        SnowSites place = retyped(before + order + "wall 6;");
        Checks.is("orders with '" + order + "'", place.runOrders(), before.split(";", -1).length + 1);
        Checks.is("the wall behind it", place.site(6, 2), 1);
    }

    /** The first number that is refused, and the last one that is not. */
    private static void upTo(String before, String good, String refused) {
        goesOnBehind(before, good);
        stopsAt(before, refused);
    }

    private static void untilOneWouldThrow() {
        Checks.sentence("until one of them would throw an exception, which is not thrown; "
            + "those before it stay done, and they alone count.");
        String[] refused = {"press 3 1;", "press 0 51;", "stack 8 0;", "stack 0 3;", "tool 21;", "carve 2 3 0 1;",
            "carve 0 8 0 1;", "carve 0 3 6 1;", "carve 0 3 0 101;", "carve 0 4 0 1;", "wall 8;", "wall 9999;", "sun 9999;"};
        for (String order : refused) {
            stopsAt("", order);
            stopsAt("wall 5;", order);
            stopsAt("wall 5;snow 9;again;", order);
        }
        upTo("", "snow 1;", "snow 0;");
        upTo("", "snow 7999;", "snow 8000;");
        upTo("", "press 0 1;", "press 0 0;");
        upTo("", "press 0 20;", "press 0 21;");
        upTo("snow 2000;", "press 2 21;", "press 2 22;");
        upTo("stack 2 2;stack 2 1;stack 2 0;", "stack 2 2;", "stack 9 2;");
        upTo("stack 2 2;stack 2 1;stack 2 0;stack 2 0;", "stack 0 2;", "stack 2 2;");
        upTo("", "tool 1;", "tool 0;");
        upTo("", "tool 20;", "tool 21;");
        upTo("tool 1;tool 1;", "tool 1;", "tool 0;");
        stopsAt("tool 1;tool 1;tool 1;", "tool 1;");
        upTo("", "carve 0 3 2 1;", "carve 0 3 3 1;");
        upTo("", "carve 0 3 0 1;", "carve 0 3 0 0;");
        upTo("", "carve 0 3 0 98;", "carve 0 3 0 99;");
        upTo("carve 0 2 0 100;carve 0 3 0 98;carve 0 7 0 92;", "carve 0 2 0 5;", "carve 0 2 0 6;");
        upTo("", "wall 7;", "wall 8;");
        upTo("", "sun 1;", "sun 0;");
        upTo("", "sun 24;", "sun 25;");
        upTo("", "cloud 1;", "cloud 0;");
        upTo("", "cloud 24;", "cloud 25;");
        goesOnBehind("again;", "again;");
        runs("snow 100;press 0 1;stack 0 0;stack 0 0;", 3);
    }

    private static void hoursOfSunAndCloud() {
        Checks.sentence("The n of sun and cloud has to be 1 to 24 (IllegalArgumentException).");
        for (String word : new String[] {"sun ", "cloud "}) {
            runs(word + "0;", 0);
            runs(word + "25;", 0);
            for (int hours : new int[] {1, 2, 11, 12, 13, 23, 24}) {
                SnowSites told = Places.atHour(3, new int[] {4, 0, 2}, new int[] {3, 1});
                SnowSites called = Places.atHour(3, new int[] {4, 0, 2}, new int[] {3, 1});
                Checks.is(word + hours, Checks.run(told, word + hours + ";"), 1);
                told.clearOrders();
                for (int i = 0; i < hours; i++) {
                    called.hour(word.equals("cloud "));
                }
                Checks.is("digest after " + word + hours, told.digest(), called.digest());
            }
        }
    }

    private static void wallIsBuilt() {
        Checks.sentence("wall s (setWall(s, true))");
        SnowSites place = new SnowSites();
        Checks.is("walls", Checks.run(place, "wall 0;wall 7;wall 7;"), 3);
        Checks.is("number of walls", place.whole(11), 2);
        Checks.is("the wall at 7", place.site(7, 2), 1);
    }

    private static void fullTexts() {
        Checks.sentence("otherwise the orders are carried out in their order");
        runs("again;".repeat(25), 25);
        runs("wall 7;".repeat(21) + "   ", 21);
        SnowSites place = Places.withText("snow 100;press 2 1;stack 3 2;tool 20;carve 0 3 0 40;again;cloud 11;sun 1;");
        Checks.is("eight orders", place.runOrders(), 8);
        Checks.is("put back", place.whole(0), 40);
        Checks.is("melted in the hour 11", place.whole(8), 4);
        Checks.is("hour", place.whole(12), 0);
        Checks.is("day", place.whole(13), 1);
        Checks.is("in another order the first one is refused",
            Checks.run(new SnowSites(), "press 2 1;snow 100;stack 3 2;"), 0);
    }

    private static void runSavesOneState() {
        Checks.sentence("A run saves one state, the one from before it; its orders save none.");
        SnowSites place = new SnowSites();
        place.addSnow(1);
        Checks.is("eight orders", Checks.run(place, "snow 1;snow 2;snow 3;snow 4;wall 1;tool 1;sun 1;again;"), 8);
        Checks.is("states that are left", place.undo(), 1);
        Checks.is("snow from before it", place.whole(0), 1);
        Checks.is("walls from before it", place.whole(11), 0);
        Checks.is("refused at once", Checks.run(place, "wall 8;"), 0);
        Checks.is("saves one, too", place.undo(), 1);
        Checks.is("with a fault", Checks.run(place, "wall 8"), -16);
        Checks.is("saves none", place.undo(), 0);
    }
}
