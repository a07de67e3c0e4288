/**
 * Two places that were made alike. One of them is asked something that has to change nothing; then
 * both tell all that can be found out of them (each saved state and the order text, too), and
 * have to tell the same.
 */
final class Twins {
    interface Maker {
        SnowSites make();
    }

    interface Call {
        long on(SnowSites place);
    }

    private Twins() {
    }

    static void noIndex(String what, Maker maker, Call call) {
        ends(what, maker, call, "IndexOutOfBoundsException");
    }

    static void badArgument(String what, Maker maker, Call call) {
        ends(what, maker, call, "IllegalArgumentException");
    }

    static void badState(String what, Maker maker, Call call) {
        ends(what, maker, call, "IllegalStateException");
    }

    /** A question: it answers this, and changes nothing. */
    static void answers(String what, Maker maker, Call call, long due) {
        ends(what, maker, call, String.valueOf(due));
    }

    /** The call ends with this answer or exception, and changes nothing. */
    static void ends(String what, Maker maker, Call call, String due) {
        SnowSites asked = maker.make();
        Checks.is(what, endOf(call, asked), due);
        same(what, asked, maker.make());
    }

    /** The answer, or the simple name of the exception; one of another package is told with it. */
    static String endOf(Call call, SnowSites place) {
        try {
            return String.valueOf(call.on(place));
        } catch (RuntimeException e) {
            return e.getClass().getName().replaceFirst("^java[.]lang[.]", "");
        }
    }

    /** Uses both places up. */
    static void same(String what, SnowSites one, SnowSites other) {
        Checks.is(what + ": all that it tells afterwards", trace(one), trace(other));
    }

    /** The order text is told last: undo does not touch it, but its run drops a saved state. */
    private static String trace(SnowSites place) {
        StringBuilder told = new StringBuilder();
        tell(place, told);
        for (int i = 0; i < 6; i++) {
            told.append(" undo ").append(endOf(SnowSites::undo, place));
            tell(place, told);
        }
        told.append(" run ").append(endOf(SnowSites::runOrders, place));
        tell(place, told);
        return told.toString();
    }

    private static void tell(SnowSites place, StringBuilder told) {
        for (int what = 0; what < 16; what++) {
            told.append(place.whole(what)).append(' ');
        }
        told.append(place.digest());
    }
}
