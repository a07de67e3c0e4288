import java.util.HashSet;
import java.util.Set;

/** What the tests share: each wrong answer is printed and counted, and finish() ends with it. */
final class Checks {
    interface Act {
        long run();
    }

    private static int passed = 0;
    private static int failed = 0;
    private static final Set<String> SENTENCES = new HashSet<>();
    private static String sentence = "";

    private Checks() {
    }

    /** The sentence of the document that the answers from here on are due to; a wrong one is printed with it. */
    static void sentence(String words) {
        sentence = words;
        SENTENCES.add(words);
    }

    static void is(String what, long got, long want) {
        is(what, String.valueOf(got), String.valueOf(want));
    }

    static void is(String what, String got, String want) {
        if (got.equals(want)) {
            passed++;
            return;
        }
        failed++;
        System.out.println(what + " answered " + got + ", due is " + want);
        if (!sentence.isEmpty()) {
            System.out.println("    by: " + sentence);
        }
    }

    /** The call has to throw just this exception, and to change nothing that the digest shows. */
    static void refuses(String what, SnowSites place, Class<? extends RuntimeException> kind, Act act) {
        long before = place.digest();
        String thrown = "nothing";
        try {
            act.run();
        } catch (RuntimeException e) {
            thrown = e.getClass().getName();
        }
        is(what + " throws", thrown, kind.getName());
        is(what + ": digest after the throw", place.digest(), before);
    }

    static void noIndex(String what, SnowSites place, Act act) {
        refuses(what, place, IndexOutOfBoundsException.class, act);
    }

    static void badArgument(String what, SnowSites place, Act act) {
        refuses(what, place, IllegalArgumentException.class, act);
    }

    static void badState(String what, SnowSites place, Act act) {
        refuses(what, place, IllegalStateException.class, act);
    }

    /** A place with all its stock full enough and a sculpture of these kinds on each named site. */
    static SnowSites placeWith(int[]... sculptures) {
        SnowSites place = new SnowSites();
        for (int kind = 0; kind < 3; kind++) {
            place.addSnow(3000);
            place.press(kind, 30);
        }
        for (int[] sculpture : sculptures) {
            for (int i = 1; i < sculpture.length; i++) {
                place.stack(sculpture[0], sculpture[i]);
            }
        }
        return place;
    }

    static void typeAll(SnowSites place, String text) {
        place.clearOrders();
        for (int i = 0; i < text.length(); i++) {
            place.type(text.charAt(i));
        }
    }

    static int run(SnowSites place, String text) {
        typeAll(place, text);
        return place.runOrders();
    }

    static void finish() {
        String ofSentences = SENTENCES.isEmpty() ? "" : " for " + SENTENCES.size() + " sentences";
        System.out.println(passed + " answers were as due" + ofSentences + ", " + failed + " were not");
        if (failed > 0) {
            System.exit(1);
        }
    }
}
