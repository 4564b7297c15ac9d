/** The edges that promises 23 to 27 name; refusals and FINDINGS of theirs are in NothingElseTest. */
public final class EarsEdgesTest {
    private static final int MIN = Integer.MIN_VALUE, MAX = Integer.MAX_VALUE;
    private static final int UNKNOWN = -1, OUTSIDE = -2, FULL = -4;
    private static final int NOTHING = -31, BEYOND = -32, SIZE = -34, STORE = -35;

    /** DECKS 0 and 1 with a LEVEL of 8.0 and of -6.0. */
    private static TapeDecks decks() {
        TapeDecks x = new TapeDecks();
        x.reel(0, 1);
        x.record(0, 0, 8000);
        x.reel(1, 1);
        x.record(1, 0, -6000);
        x.deck(0, 0, 1000);
        x.deck(1, 0, 1000);
        x.play(0, 1);
        x.play(1, 1);
        return x;
    }

    private static void placesOfTheEars() {
        for (int n = 0; n <= 5; n++) {
            TapeDecks x = decks();
            Due.is("ears(true, " + n + ")", x.ears(true, n), 1);
            Due.is("behind the last place", x.ear(n, 1, 0), BEYOND);
            Due.is("to hear there", x.hear(n), Due.FAR + BEYOND);
            if (n > 0) {
                Due.is("the last place", x.ear(n - 1, 1, 0), 1);
                Due.is("to hear there too", x.hear(n - 1), 8000);
            }
        }
        TapeDecks x = decks();
        Due.is("six", x.ears(true, 6), OUTSIDE);
        Due.is("MAX", x.ears(true, MAX), OUTSIDE);
        Due.is("-1", x.ears(true, -1), SIZE);
        Due.is("MIN", x.ears(true, MIN), SIZE);
        Due.is("no EARS of these", x.hear(0), Due.FAR + NOTHING);
    }

    private static void newEarsAreEmpty() {
        TapeDecks x = decks();
        x.ears(false, 2);
        x.ear(0, 0, 0);
        x.ear(1, 1, 1);
        Due.is("two", x.count(2), 2);
        Due.is("as many places again", x.ears(false, 2), 1);
        Due.is("none", x.count(2), 0);
        Due.is("to hear at 0", x.hear(0), Due.FAR + NOTHING);
        Due.is("to hear at 1", x.hear(1), Due.FAR + NOTHING);
    }

    private static void refusedEarsStay() {
        TapeDecks x = decks();
        x.ears(false, 2);
        x.ear(0, 0, 0);
        x.ears(true, 6);
        x.ears(true, -1);
        Due.is("the EAR is there", x.hear(0), 4);
        Due.is("for any still", x.ear(1, 0, 1), 1);
        Due.is("it is there", x.hear(1), -3);
    }

    private static void sharpAlone() {
        TapeDecks x = decks();
        x.ears(true, 1);
        Due.is("a DULL one", x.ear(0, 0, 0), STORE);
        Due.is("a SHARP one", x.ear(0, 1, 0), 1);
        Due.is("a DULL one over it", x.ear(0, 0, 1), STORE);
        Due.is("the SHARP one stays", x.hear(0), 8000);
        x.ears(false, 1);
        Due.is("for any by now", x.ear(0, 0, 0), 1);
        x.ears(true, 1);
        Due.is("for SHARP ones again", x.ear(0, 0, 0), STORE);
        Due.is("STORE met", x.count(7), 3);
    }

    private static void anotherEarAtThePlace() {
        TapeDecks x = decks();
        x.ears(false, 2);
        Due.is("DULL", x.ear(0, 0, 0), 1);
        Due.is("it hears", x.hear(0), 4);
        Due.is("SHARP over it", x.ear(0, 1, 0), 1);
        Due.is("it hears sharply", x.hear(0), 8000);
        Due.is("of another DECK over it", x.ear(0, 1, 1), 1);
        Due.is("it hears the other", x.hear(0), -6000);
        Due.is("DULL over it", x.ear(0, 0, 1), 1);
        Due.is("it hears dully", x.hear(0), -3);
        Due.is("one EAR", x.count(2), 1);
        Due.is("no other place", x.hear(1), Due.FAR + NOTHING);
    }

    private static void sorts() {
        TapeDecks x = decks();
        x.ears(false, 1);
        Due.is("sort -1", x.ear(0, -1, 0), OUTSIDE);
        Due.is("sort 0", x.ear(0, 0, 0), 1);
        Due.is("sort 1", x.ear(0, 1, 0), 1);
        Due.is("sort 2", x.ear(0, 2, 0), OUTSIDE);
        Due.is("DECK 2", x.ear(0, 1, 2), UNKNOWN);
        Due.is("DECK -1", x.ear(0, 1, -1), UNKNOWN);
    }

    private static void hearsAtTheEnds() {
        TapeDecks x = decks();
        Due.is("no EARS", x.hear(0), Due.FAR + NOTHING);
        Due.is("no EARS, far out", x.hear(MAX), Due.FAR + NOTHING);
        x.ears(false, 5);
        Due.is("no EAR", x.hear(4), Due.FAR + NOTHING);
        x.ear(4, 1, 0);
        Due.is("the last", x.hear(4), 8000);
        Due.is("behind it", x.hear(5), Due.FAR + BEYOND);
        Due.is("ahead of the first", x.hear(-1), Due.FAR + BEYOND);
        Due.is("MIN", x.hear(MIN), Due.FAR + BEYOND);
        x.ears(false, 0);
        Due.is("EARS without places", x.hear(0), Due.FAR + BEYOND);
        Due.is("NOTHING met", x.count(3), 3);
        Due.is("BEYOND met", x.count(4), 4);
    }

    private static void countsAtTheEnds() {
        TapeDecks x = new TapeDecks();
        for (int what = 0; what <= 8; what++) {
            Due.is("count(" + what + ") of none", x.count(what), 0);
        }
        Due.is("count(9)", x.count(9), OUTSIDE);
        Due.is("count(-1)", x.count(-1), OUTSIDE);
        for (int k = 0; k < 10; k++) {
            x.reel(k, 0);
            x.deck(0, 0, 1);
        }
        x.ears(false, 5);
        for (int k = 0; k < 6; k++) {
            x.ear(k, 0, 0);
        }
        Due.is("DECKS, full", x.count(0), 8);
        Due.is("places, full", x.count(1), 10);
        Due.is("EARS, full", x.count(2), 5);
    }

    /** Each FINDING alone, so many times: no other one is counted. */
    private static void countsOfFindings() {
        for (int finding = 1; finding <= 6; finding++) {
            TapeDecks x = decks();
            x.tag(2, 5);
            x.ears(true, 1);
            for (int k = 1; k <= 3; k++) {
                meet(x, finding);
                for (int what = 3; what <= 8; what++) {
                    Due.is("FINDING " + finding + ": count(" + what + ")", x.count(what), what == 2 + finding ? k : 0);
                }
            }
        }
    }

    private static void meet(TapeDecks x, int finding) {
        switch (finding) {
            case 1 -> x.loud(3, false, 0);
            case 2 -> x.loud(0, false, 1);
            case 3 -> x.loud(2, false, 0);
            case 4 -> x.ears(true, -1);
            case 5 -> x.ear(0, 0, 0);
            default -> {
                x.list(4, 1);
                x.left(4, true, 0, 0);
            }
        }
    }

    private static void playCountsAndAtDoesNot() {
        TapeDecks x = decks();
        x.drop(0);
        x.play(0, 100);
        Due.is("NOTHING of a play, once", x.count(3), 1);
        x.play(0, 0);
        x.play(0, 101);
        Due.is("none of no TICKS or of a refused one", x.count(3), 1);
        Due.is("at()", Due.thrownByAt(x, 0, false, 0), Due.NULL_POINTER);
        Due.is("none of at()", x.count(3), 1);
        x.hear(0);
        Due.is("one of hear()", x.count(3), 2);
        x.number(0);
        Due.is("one of number()", x.count(3), 3);
        x.cut(0, 0, 0);
        Due.is("one of cut()", x.count(3), 4);
    }

    private static void clearOf(String name, TapeDecks x, int deckCount) {
        Due.is(name + ": how many DECKS", x.clear(), deckCount);
        Look after = new Look(x);
        Due.is(name + ": finding()", after.finding, 0);
        after.isAs(new Look(new TapeDecks()), 0, 0);
    }

    private static void allAsAtTheBeginning() {
        clearOf("full", Worlds.full(), 8);
        clearOf("open", Worlds.open(), 2);
        clearOf("earless", Worlds.earless(), 1);
        clearOf("new", new TapeDecks(), 0);
        TapeDecks twice = Worlds.full();
        twice.clear();
        clearOf("cleared", twice, 0);
    }

    /** DECKS, rows and EARS behind a clear(), by the numbers of those ahead of it. */
    private static void behindClear() {
        TapeDecks x = Worlds.full();
        x.clear();
        Due.is("no DECK 0", x.play(0, 1), UNKNOWN);
        Due.is("nor its SPEED", x.speed(0, 1), UNKNOWN);
        Due.is("nor for an EAR", x.ear(0, 1, 0), UNKNOWN);
        Due.is("no DECK 7", x.told(7, 2), 0);
        Due.is("DECKS come from 0", x.deck(0, 250, 1000), 0);
        Due.is("HEAD 0.0", x.told(0, 0), 0);
        Due.is("LEVEL 0.0", x.told(0, 3), 0);
        Due.is("no EARS", x.ear(0, 1, 0), NOTHING);
        Due.is("EARS", x.ears(false, 3), 1);
        Due.is("they are empty", x.count(2), 0);
        Due.is("a DULL one too", x.ear(0, 0, 0), 1);
        Due.is("it hears 0", x.hear(0), 0);
        Due.is("a new REEL", x.reel(0, 3), 1);
        Due.is("of 0.0", x.at(0, false, 0), 0);
        Due.is("shared with none", Due.thrownByAt(x, Worlds.SHARED_REEL, false, 0), Due.NULL_POINTER);
        for (int deck = 1; deck <= 7; deck++) {
            Due.is("DECK " + deck, x.deck(0, 0, 1), deck);
        }
        Due.is("and FULL again", x.deck(0, 0, 1), FULL);
        Due.is("clear() again", x.clear(), 8);
    }

    /** The same calls behind a clear() as on a new object. */
    private static void sameCallsBehindClear() {
        TapeDecks x = Worlds.full();
        x.clear();
        TapeDecks y = new TapeDecks();
        for (TapeDecks each : new TapeDecks[] {x, y}) {
            each.reel(1, 2);
            each.record(1, 1, 1500);
            each.list(2, 1);
            each.tag(3, 4);
            each.share(4, 1);
            each.deck(1, 1000, 1500);
            each.play(0, 7);
            each.deck(9, 1, 1);
            each.play(1, 7);
            each.mark(0, 2, 0);
            each.ears(true, 2);
            each.ear(1, 1, 0);
            each.ear(0, 0, 0);
        }
        Due.is("finding()", x.finding(), y.finding());
        new Look(x).isAs(new Look(y), 0, 0);
    }

    private static void objectsApart() {
        TapeDecks x = decks();
        TapeDecks y = decks();
        Look before = new Look(decks());
        x.clear();
        x.reel(0, 2);
        new Look(y).isAs(before, 0, 0);
    }

    public static void main(String[] args) {
        Due.test("23 n places (5 at most)", EarsEdgesTest::placesOfTheEars);
        Due.test("23 they are empty at first", EarsEdgesTest::newEarsAreEmpty);
        Due.test("23 refused, and nothing changes", EarsEdgesTest::refusedEarsStay);
        Due.test("23, 24 for SHARP ones alone or for any", EarsEdgesTest::sharpAlone);
        Due.test("24 a new EAR comes to place i", EarsEdgesTest::anotherEarAtThePlace);
        Due.test("24 of a sort (0, 1) of a DECK", EarsEdgesTest::sorts);
        Due.test("25 NOTHING: THE EARS, the EAR; BEYOND", EarsEdgesTest::hearsAtTheEnds);
        Due.test("26 DECKS, places, EARS; OUTSIDE", EarsEdgesTest::countsAtTheEnds);
        Due.test("26 3 .. 8 FINDINGS 1 .. 6 in all", EarsEdgesTest::countsOfFindings);
        Due.test("26 at() counts none; play() does", EarsEdgesTest::playCountsAndAtDoesNot);
        Due.test("27 all is as at the beginning (finding() 0): how many DECKS there were", EarsEdgesTest::allAsAtTheBeginning);
        Due.test("27 the calls behind clear()", EarsEdgesTest::behindClear);
        Due.test("27 the same calls behind clear() as on a new object", EarsEdgesTest::sameCallsBehindClear);
        Due.test("27 clear() of one object alone", EarsEdgesTest::objectsApart);
        Due.end();
    }
}
