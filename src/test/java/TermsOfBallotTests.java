/** The document's term "BALLOTS", and the promises 16 to 18 about their count: both sides of each bound. */
public final class TermsOfBallotTests {
    private static final int NONE = SnowSites.NONE;

    private TermsOfBallotTests() {
    }

    public static void main(String[] args) {
        atMost20();
        oneToThreeSites();
        inOrder();
        differentSites();
        roundsFrom0();
        allWithASculptureStand();
        firstThatStands();
        ifThereIsOne();
        oneAloneStands();
        moreThanHalf();
        votesThatCount();
        votesThatCountInThisRound();
        fewestVotes();
        smallerSum();
        highestNumber();
        doesNotStandAnyMore();
        withoutSculptures();
        mostRounds();
        everyOfTwentyCounts();
        Checks.finish();
    }

    /** One loose block on each of these sites. */
    private static SnowSites on(int... sites) {
        SnowSites place = new SnowSites();
        place.addSnow(900);
        place.press(0, 9);
        for (int site : sites) {
            place.stack(site, 0);
        }
        return place;
    }

    private static void vote(SnowSites place, int times, int first, int second, int third) {
        for (int i = 0; i < times; i++) {
            place.ballot(first, second, third);
        }
    }

    private static void votesAre(String what, SnowSites place, int round, int... due) {
        for (int site = 0; site < 8; site++) {
            Checks.is(what + ": round " + round + ", site " + site, place.votes(round, site), due[site]);
        }
    }

    private static void atMost20() {
        Checks.sentence("There are at most 20 ballots.");
        SnowSites place = new SnowSites();
        Checks.is("none at first", place.whole(14), 0);
        for (int i = 1; i <= 20; i++) {
            Checks.is("ballots", place.ballot(i % 8, -1, -1), i);
        }
        Twins.badState("the twenty-first", () -> Places.withBallots(20), p -> p.ballot(0, 1, 2));
        Checks.is("all of them", place.clearBallots(), 20);
        for (int i = 1; i <= 20; i++) {
            Checks.is("ballots after clearing", place.ballot(0, 1, 2), i);
        }
        Checks.is("still twenty", place.whole(14), 20);
    }

    private static void oneToThreeSites() {
        Checks.sentence("A ballot names 1 to 3 different sites");
        SnowSites place = on(2);
        Checks.is("one", place.ballot(2, NONE, NONE), 1);
        Checks.is("two", place.ballot(1, 2, NONE), 2);
        Checks.is("three", place.ballot(0, 1, 2), 3);
        Checks.is("each of them counts", place.votes(0, 2), 3);
        Twins.badArgument("none", Places::busy, p -> p.ballot(NONE, NONE, NONE));
        Twins.badArgument("the second one alone", Places::busy, p -> p.ballot(NONE, 2, NONE));
        Twins.badArgument("the third one alone", Places::busy, p -> p.ballot(NONE, NONE, 2));
        Twins.badArgument("the first one and the third one", Places::busy, p -> p.ballot(1, NONE, 2));
    }

    private static void inOrder() {
        Checks.sentence("A ballot names 1 to 3 different sites, in order.");
        int[][] orders = {{1, 4, 6}, {1, 6, 4}, {4, 1, 6}, {4, 6, 1}, {6, 1, 4}, {6, 4, 1}};
        for (int[] order : orders) {
            SnowSites place = on(1, 4, 6);
            place.ballot(order[0], order[1], order[2]);
            Checks.is("the first one wins", place.winner(), order[0]);
            Places.carveTo(place, order[0], 0, 0);
            Checks.is("then the second one", place.winner(), order[1]);
            Places.carveTo(place, order[1], 0, 0);
            Checks.is("then the third one", place.winner(), order[2]);
            Places.carveTo(place, order[2], 0, 0);
            Checks.is("then none", place.winner(), NONE);
        }
    }

    private static void differentSites() {
        Checks.sentence("1 to 3 different sites");
        for (int site = 0; site < 8; site++) {
            int s = site;
            int other = (site + 1) % 8;
            Twins.badArgument("first and second", Places::busy, p -> p.ballot(s, s, NONE));
            Twins.badArgument("first and second of three", Places::busy, p -> p.ballot(s, s, other));
            Twins.badArgument("first and third", Places::busy, p -> p.ballot(s, other, s));
            Twins.badArgument("second and third", Places::busy, p -> p.ballot(other, s, s));
            Checks.is("neighbors differ", new SnowSites().ballot(s, other, NONE), 1);
        }
    }

    private static void roundsFrom0() {
        Checks.sentence("They are counted by rounds, numbered from 0.");
        SnowSites place = on(1, 2, 3);
        Checks.is("rounds", place.rounds(), 3);
        for (int round = 0; round < 3; round++) {
            Checks.is("site 1 in round " + round, place.votes(round, 1), 0);
        }
        for (int round : new int[] {3, 4, 7, 8, 9, Integer.MAX_VALUE}) {
            Checks.is("no round " + round, place.votes(round, 1), NONE);
        }
        Twins.badArgument("round -1", Places::busy, p -> p.votes(-1, 2));
    }

    private static void allWithASculptureStand() {
        Checks.sentence("In round 0, all sites with a sculpture stand.");
        votesAre("0 and 7", on(0, 7), 0, 0, NONE, NONE, NONE, NONE, NONE, NONE, 0);
        votesAre("1 to 6", on(1, 2, 3, 4, 5, 6), 0, NONE, 0, 0, 0, 0, 0, 0, NONE);
        SnowSites place = on(3);
        vote(place, 3, 4, 2, 5);
        votesAre("votes for sites without one", place, 0, NONE, NONE, NONE, 0, NONE, NONE, NONE, NONE);
    }

    private static void firstThatStands() {
        Checks.sentence("In each round, each ballot counts for the first of its sites that stands in this round");
        SnowSites place = on(1, 2, 3);
        place.ballot(0, 7, 3);
        place.ballot(0, 3, 1);
        vote(place, 2, 2, 3, 1);
        vote(place, 2, 1, 3, 2);
        votesAre("by the third, the second, the first", place, 0, NONE, 2, 2, 2, NONE, NONE, NONE, NONE);
        votesAre("without 3: its ballots have 1 or none", place, 1, NONE, 3, 2, NONE, NONE, NONE, NONE, NONE);
        Checks.is("3 of 5 are more than half", place.winner(), 1);
    }

    private static void ifThereIsOne() {
        Checks.sentence("if there is one.");
        SnowSites place = on(1, 2);
        vote(place, 17, 3, 4, 5);
        place.ballot(0, 6, 2);
        votesAre("17 count for none", place, 0, NONE, 0, 1, NONE, NONE, NONE, NONE, NONE);
        Checks.is("and not against one either", place.rounds(), 1);
        Checks.is("winner", place.winner(), 2);
    }

    private static void oneAloneStands() {
        Checks.sentence("If one site alone stands [..] the count ends with this round, and that site has won.");
        for (int site = 0; site < 8; site++) {
            SnowSites place = on(site);
            Checks.is("without a ballot", place.winner(), site);
            vote(place, 20, (site + 1) % 8, NONE, NONE);
            Checks.is("without a vote", place.winner(), site);
            Checks.is("one round", place.rounds(), 1);
            Checks.is("its votes", place.votes(0, site), 0);
        }
        SnowSites two = on(0, 7);
        Checks.is("two need two rounds", two.rounds(), 2);
        Checks.is("the last one", two.winner(), 0);
    }

    private static void moreThanHalf() {
        Checks.sentence("or one has more than half of the votes that count in this round, the count ends with this round");
        for (int half = 1; half <= 10; half++) {
            SnowSites place = on(2, 5, 6);
            vote(place, half, 5, NONE, NONE);
            vote(place, half - 1, 2, NONE, NONE);
            Checks.is(half + " of " + (2 * half - 1), place.rounds(), 1);
            Checks.is("winner", place.winner(), 5);
            place.ballot(6, 2, NONE);
            Checks.is(half + " of " + 2 * half, place.rounds() > 1 ? 1 : 0, 1);
            Checks.is("no winner in round 0, so there is a round 1", place.votes(1, 5), half);
        }
    }

    private static void votesThatCount() {
        Checks.sentence("more than half of the votes that count in this round");
        SnowSites place = on(2, 5, 6);
        vote(place, 2, 5, NONE, NONE);
        place.ballot(2, NONE, NONE);
        vote(place, 17, 0, 1, 3);
        Checks.is("2 of 3 that count, of 20 ballots", place.rounds(), 1);
        Checks.is("winner", place.winner(), 5);
    }

    /** Of five votes the site 7 has two; without 0, whose ballot names no other, two of four; without 1, three. */
    private static void votesThatCountInThisRound() {
        Checks.sentence("more than half of the votes that count in this round");
        SnowSites place = on(0, 1, 2, 7);
        Places.carveTo(place, 0, 0, 50);
        Places.carveTo(place, 1, 0, 60);
        vote(place, 2, 7, NONE, NONE);
        place.ballot(0, NONE, NONE);
        place.ballot(1, NONE, NONE);
        place.ballot(2, NONE, NONE);
        votesAre("2 of 5", place, 0, 1, 1, 1, NONE, NONE, NONE, NONE, 2);
        votesAre("2 of 4", place, 1, NONE, 1, 1, NONE, NONE, NONE, NONE, 2);
        votesAre("2 of 3", place, 2, NONE, NONE, 1, NONE, NONE, NONE, NONE, 2);
        Checks.is("rounds", place.rounds(), 3);
        Checks.is("winner", place.winner(), 7);
    }

    private static void fewestVotes() {
        Checks.sentence("Otherwise the site with the fewest votes [..] does not stand in the next round.");
        for (int fewest : new int[] {1, 4, 6}) {
            SnowSites place = on(1, 4, 6);
            // The one with the fewest votes is the largest one, so that only its votes speak against it.
            place.stack(fewest, 0);
            for (int site : new int[] {1, 4, 6}) {
                vote(place, site == fewest ? 2 : 3, site, NONE, NONE);
            }
            for (int site : new int[] {1, 4, 6}) {
                Checks.is("round 1 without " + fewest + ": " + site, place.votes(1, site), site == fewest ? NONE : 3);
            }
        }
        SnowSites nothing = on(1, 4, 6);
        nothing.stack(4, 0);
        vote(nothing, 2, 1, NONE, NONE);
        vote(nothing, 2, 6, NONE, NONE);
        Checks.is("no votes are the fewest", nothing.votes(1, 4), NONE);
    }

    private static void smallerSum() {
        Checks.sentence("of several the one with the smaller sum of volumes");
        for (int smaller : new int[] {1, 4, 6}) {
            SnowSites place = on(1, 4, 6);
            Places.carveTo(place, smaller, 0, 99);
            for (int site : new int[] {1, 4, 6}) {
                Checks.is("a unit less on " + smaller + ": " + site, place.votes(1, site), site == smaller ? NONE : 0);
            }
        }
        SnowSites place = on(1, 4);
        place.stack(1, 0);
        Places.carveTo(place, 1, 0, 50);
        Places.carveTo(place, 1, 1, 49);
        Checks.is("two blocks with a smaller sum", place.votes(1, 1), NONE);
        Checks.is("winner", place.winner(), 4);
        SnowSites equal = on(1, 4);
        equal.stack(1, 0);
        Places.carveTo(equal, 1, 0, 50);
        Places.carveTo(equal, 1, 1, 50);
        Checks.is("two blocks with an equal sum", equal.winner(), 1);
    }

    private static void highestNumber() {
        Checks.sentence("of several the one with the highest number, does not stand in the next round.");
        SnowSites place = on(0, 3, 7);
        votesAre("without 7", place, 1, 0, NONE, NONE, 0, NONE, NONE, NONE, NONE);
        votesAre("without 3", place, 2, 0, NONE, NONE, NONE, NONE, NONE, NONE, NONE);
        SnowSites voted = on(0, 3, 7);
        vote(voted, 1, 7, NONE, NONE);
        vote(voted, 1, 3, NONE, NONE);
        vote(voted, 1, 0, NONE, NONE);
        votesAre("without 7, all with one vote", voted, 1, 1, NONE, NONE, 1, NONE, NONE, NONE, NONE);
        Checks.is("winner", voted.winner(), 0);
    }

    private static void doesNotStandAnyMore() {
        Checks.sentence("does not stand in the next round.");
        SnowSites place = on(0, 1, 2, 3);
        for (int round = 0; round < 4; round++) {
            for (int site = 0; site < 4; site++) {
                Checks.is("site " + site + " in round " + round, place.votes(round, site), site < 4 - round ? 0 : NONE);
            }
        }
        vote(place, 4, 3, 0, NONE);
        vote(place, 3, 0, NONE, NONE);
        vote(place, 2, 1, 2, 0);
        vote(place, 1, 2, 1, NONE);
        votesAre("round 1: the ballot for 2 goes on to 1", place, 1, 3, 3, NONE, 4, NONE, NONE, NONE, NONE);
        votesAre("round 2: two of 1's go on to 0, past 2", place, 2, 5, NONE, NONE, 4, NONE, NONE, NONE, NONE);
        Checks.is("winner", place.winner(), 0);
    }

    private static void withoutSculptures() {
        Checks.sentence("(Without sculptures there are no rounds, and no site wins.)");
        SnowSites place = Places.withBallots(20);
        Checks.is("rounds", place.rounds(), 0);
        Checks.is("winner", place.winner(), NONE);
        votesAre("no votes", place, 0, NONE, NONE, NONE, NONE, NONE, NONE, NONE, NONE);
        SnowSites melted = on(6);
        melted.ballot(6, NONE, NONE);
        Checks.is("one round with one", melted.rounds(), 1);
        Places.carveTo(melted, 6, 0, 12);
        melted.hour(false);
        Checks.is("rounds when it melted", melted.rounds(), 0);
        Checks.is("winner when it melted", melted.winner(), NONE);
        Checks.is("votes when it melted", melted.votes(0, 6), NONE);
    }

    private static void mostRounds() {
        Checks.sentence("Promise 16: Returns the number; 0 without sculptures.");
        Checks.is("a new object", new SnowSites().rounds(), 0);
        for (int sites = 1; sites <= 8; sites++) {
            int[] first = new int[sites];
            for (int i = 0; i < sites; i++) {
                first[i] = i;
            }
            SnowSites place = on(first);
            Checks.is("rounds with " + sites, place.rounds(), sites);
            Checks.is("the last round", place.votes(sites - 1, 0), 0);
            Checks.is("none behind it", place.votes(sites, 0), NONE);
        }
    }

    /** Nineteen for one site and the twentieth for another: whichever of them it is, it counts. */
    private static void everyOfTwentyCounts() {
        Checks.sentence("each ballot counts for the first of its sites that stands in this round");
        for (int other = 0; other < 20; other++) {
            SnowSites place = on(2, 5);
            for (int i = 0; i < 20; i++) {
                place.ballot(i == other ? 5 : 2, NONE, NONE);
            }
            Checks.is("nineteen", place.votes(0, 2), 19);
            Checks.is("one", place.votes(0, 5), 1);
        }
    }
}
