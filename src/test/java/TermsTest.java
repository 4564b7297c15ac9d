/** The sentences of "Terms", each with its edges; what is refused and what meets a FINDING is in NothingElseTest. */
public final class TermsTest {
    private static final int MIN = Integer.MIN_VALUE, MAX = Integer.MAX_VALUE;
    private static final int NOTHING = -31, BEYOND = -32, CAST = -33, SIZE = -34, STORE = -35, ZERO = -36;

    /** Numbers at which a float of n, by 1000.0 as floats are, differs from what doubles would make of it. */
    private static final int[] GIVEN = {
        0, 1, -1, 7, 333, -333, 999, 1000, 4095999, 16777215, 16777216, 16777217, 16777219, -16777217, 123456789,
        2147483520, 2147483584, 2147483585, MAX - 1, MAX, MIN, MIN + 1
    };

    private static long bits(float f) {
        return Float.floatToRawIntBits(f);
    }

    private static long bits(double d) {
        return Double.doubleToRawLongBits(d);
    }

    /** A REEL of three at place 0, and a LIST of three at 1. */
    private static TapeDecks rows() {
        TapeDecks x = new TapeDecks();
        x.reel(0, 3);
        x.list(1, 3);
        return x;
    }

    private static void givenAsFloat() {
        TapeDecks x = rows();
        int unlikeDoubles = 0;
        int unlikeInts = 0;
        for (int n : GIVEN) {
            long due = bits((float) n / 1000.0f);
            x.record(0, 0, n);
            Due.is("a sample given as " + n, x.at(0, false, 0), due);
            unlikeDoubles += due == bits((float) (n / 1000.0)) ? 0 : 1;
            unlikeInts += due == bits((float) (n / 1000)) ? 0 : 1;
        }
        Due.holds("some are told from doubles", unlikeDoubles > 0);
        Due.holds("some are told from whole numbers", unlikeInts > 0);
    }

    private static void givenAsFloatToDecks() {
        for (int n : GIVEN) {
            TapeDecks x = rows();
            x.deck(0, n, 1);
            Due.is("SPEED given as " + n, x.told(0, 1), bits((float) n / 1000.0f));
            x.speed(0, 0);
            x.speed(0, n);
            Due.is("SPEED given later as " + n, x.told(0, 1), bits((float) n / 1000.0f));
            if (n > 0) {
                x.deck(0, 1, n);
                Due.is("LOOP given as " + n, x.told(1, 2), bits((float) n / 1000.0f));
            }
        }
    }

    private static void givenAsDouble() {
        TapeDecks x = rows();
        for (int n : GIVEN) {
            x.cue(1, 0, n);
            Due.is("a cue given as " + n, x.at(1, true, 0), bits(n / 1000.0));
        }
    }

    private static void givenZero() {
        TapeDecks x = rows();
        x.record(0, 0, -1);
        x.record(0, 0, 0);
        x.cue(1, 0, -1);
        x.cue(1, 0, 0);
        Due.is("0 is 0.0, not -0.0", x.at(0, false, 0), 0);
        Due.is("and so as a double", x.at(1, true, 0), 0);
    }

    private static void lastOfCalls() {
        TapeDecks x = rows();
        for (int call = 3; call <= 511; call++) {
            x.record(0, 3, 0);
        }
        Due.is("call 512", x.count(4), 509);
    }

    private static void bitsOfFloats() {
        TapeDecks x = rows();
        x.record(0, 0, -1);
        Due.is("below 0 as an int is below 0 as a long", x.at(0, false, 0), bits(-0.001f));
        Due.holds("it is below 0", x.at(0, false, 0) < 0);
        x.left(0, false, 0, 0);
        Due.is("-0.0", x.at(0, false, 0), (long) MIN);
        Worlds.endlessSample(x, 0, 1);
        Due.is("endless", x.at(0, false, 1), 0x7F800000L);
        Due.is("0.0", x.at(0, false, 2), 0);
    }

    private static void bitsOfDoubles() {
        TapeDecks x = rows();
        x.cue(1, 0, -1);
        Due.is("below 0", x.at(1, true, 0), bits(-0.001));
        x.left(1, true, 0, 0);
        Due.is("-0.0", x.at(1, true, 0), Long.MIN_VALUE);
        Worlds.endlessCue(x, 1, 1);
        Due.is("endless", x.at(1, true, 1), 0x7FF0000000000000L);
        Due.is("0.0", x.at(1, true, 2), 0);
    }

    /** Numbers that become too small for a leading one, and 0.0 behind that. */
    private static void bitsOfTheLeast() {
        TapeDecks x = rows();
        int small = 0;
        for (int n = 1; n <= 60; n++) {
            float sample = (float) n / 1000.0f;
            double cue = n / 1000.0;
            x.record(0, 0, n);
            x.cue(1, 0, n);
            for (int k = 0; k < 9; k++) {
                sample *= sample;
                cue *= cue;
                x.loud(0, false, 0);
                x.loud(1, true, 0);
                small += sample > 0 && sample < Float.MIN_NORMAL ? 1 : 0;
                small += cue > 0 && cue < Double.MIN_NORMAL ? 1 : 0;
                if (k >= 2) {
                    Due.is("a float of " + n + " squared " + k, x.at(0, false, 0), bits(sample));
                    Due.is("a double of " + n + " squared " + k, x.at(1, true, 0), bits(cue));
                }
            }
            x = rows();
        }
        Due.holds("some are too small for a leading one", small > 2);
    }

    private static void signOfLeft() {
        TapeDecks x = rows();
        int[][] pairs = {{7001, 2500}, {-7001, 2500}, {7001, -2500}, {-7001, -2500}, {5000, 2500}, {-5000, 2500},
            {2499, 2500}, {-2499, 2500}, {2500, 2500}, {-2500, 2500}, {2501, 2500}, {1, MAX}, {MAX, 1}, {MIN, 3}};
        for (int[] pair : pairs) {
            x.record(0, 0, pair[0]);
            x.record(0, 1, pair[1]);
            x.left(0, false, 0, 1);
            Due.is("floats " + pair[0] + " by " + pair[1], x.at(0, false, 0),
                    bits(((float) pair[0] / 1000.0f) % ((float) pair[1] / 1000.0f)));
            x.cue(1, 0, pair[0]);
            x.cue(1, 1, pair[1]);
            x.left(1, true, 0, 1);
            Due.is("doubles " + pair[0] + " by " + pair[1], x.at(1, true, 0), bits((pair[0] / 1000.0) % (pair[1] / 1000.0)));
        }
    }

    private static void places() {
        TapeDecks x = new TapeDecks();
        for (int place = 0; place <= 9; place++) {
            Due.is("NOTHING at first at " + place, Due.thrownByAt(x, place, false, 0), Due.NULL_POINTER);
            Due.is("a TAG at " + place, x.tag(place, place - 5), 1);
        }
        for (int place = 0; place <= 9; place++) {
            Due.is("each has its own, " + place, x.number(place), place - 5);
        }
        Due.is("place 10", x.tag(10, 1), -1);
        Due.is("place -1", x.tag(-1, 1), -1);
        Due.is("ten in all", x.count(1), 10);
    }

    private static void rowsOfNoneAndOfThirty() {
        TapeDecks x = new TapeDecks();
        Due.is("a REEL of 0", x.reel(0, 0), 1);
        Due.is("it has no place 0", x.record(0, 0, 1), BEYOND);
        Due.is("a LIST of 0", x.list(1, 0), 1);
        Due.is("it has no place 0", x.cue(1, 0, 1), BEYOND);
        Due.is("a row of 0 is not NOTHING", x.count(1), 2);
        Due.is("a REEL of 30", x.reel(2, 30), 1);
        Due.is("a LIST of 30", x.list(3, 30), 1);
        for (int i = 0; i < 30; i++) {
            x.record(2, i, i + 1);
            x.cue(3, i, i + 1);
        }
        for (int i = 0; i < 30; i++) {
            Due.is("sample " + i, x.at(2, false, i), bits((i + 1) / 1000.0f));
            Due.is("cue " + i, x.at(3, true, i), bits((i + 1) / 1000.0));
        }
        Due.is("sample 30", x.record(2, 30, 1), BEYOND);
        Due.is("cue 30", x.cue(3, 30, 1), BEYOND);
        Due.is("a REEL of 31", x.reel(4, 31), -2);
        Due.is("a LIST of 31", x.list(4, 31), -2);
        Due.is("nor is it there", x.drop(4), 0);
    }

    private static void numbersOfFindings() {
        TapeDecks x = rows();
        x.deck(0, 0, 1);
        x.ears(true, 1);
        Due.is("NOTHING", x.record(2, 0, 1), NOTHING);
        Due.is("BEYOND", x.record(0, 3, 1), BEYOND);
        Due.is("CAST", x.record(1, 0, 1), CAST);
        Due.is("SIZE", x.reel(0, -1), SIZE);
        Due.is("STORE", x.ear(0, 0, 0), STORE);
        Due.is("ZERO", x.left(0, false, 0, 0), ZERO);
        for (int what = 3; what <= 8; what++) {
            Due.is("once each", x.count(what), 1);
        }
    }

    private static void nothingIsTakenForAll() {
        TapeDecks x = new TapeDecks();
        x.deck(4, 0, 1);
        Due.is("for a REEL", x.record(4, 0, 1), NOTHING);
        Due.is("for a LIST", x.cue(4, 0, 1), NOTHING);
        Due.is("for a TAG", x.number(4), -2000000031);
        Due.is("for both of a stamp", x.stamp(4, 4, 0, 1), NOTHING);
        x.play(0, 1);
        Due.is("for a REEL by a TICK", x.finding(), NOTHING);
        Due.is("none of them is CAST", x.count(5), 0);
    }

    private static void castAheadOfBeyond() {
        TapeDecks x = rows();
        x.tag(2, 5);
        int[] beyond = {-1, 3, 30, MIN, MAX};
        for (int i : beyond) {
            Due.is("a LIST for a REEL", x.record(1, i, 1), CAST);
            Due.is("a REEL for a LIST", x.cue(0, i, 1), CAST);
            Due.is("a TAG for a REEL", x.record(2, i, 1), CAST);
            Due.is("a TAG for a LIST", x.cue(2, i, 1), CAST);
        }
        Due.is("none of them is BEYOND", x.count(4), 0);
    }

    private static void decksAsTheyCome() {
        TapeDecks x = new TapeDecks();
        for (int deck = 0; deck <= 7; deck++) {
            Due.is("DECK " + deck, x.deck(9 - deck, deck, deck + 1), deck);
        }
        Due.is("no DECK 8", x.deck(0, 1, 1), -4);
        for (int deck = 0; deck <= 7; deck++) {
            Due.is("HEAD is 0.0 at first", x.told(deck, 0), 0);
            Due.is("its own SPEED", x.told(deck, 1), bits(deck / 1000.0f));
            Due.is("its own LOOP", x.told(deck, 2), bits((deck + 1) / 1000.0f));
            Due.is("LEVEL is 0.0 at first", x.told(deck, 3), 0);
        }
    }

    private static void sharedPlaceOfDecks() {
        TapeDecks x = rows();
        x.record(0, 0, 2000);
        x.deck(0, 1000, 3000);
        x.deck(0, 500, 3000);
        x.play(1, 1);
        Due.is("the one that played", x.told(1, 3), bits(2.0));
        Due.is("the other has a LEVEL of its own", x.told(0, 3), 0);
        Due.is("and a HEAD of its own", x.told(0, 0), 0);
    }

    private static void whatThePlaceHoldsThen() {
        TapeDecks x = new TapeDecks();
        x.deck(0, 0, 1000);
        Due.is("NOTHING yet", x.play(0, 1), 0);
        x.reel(0, 1);
        x.record(0, 0, 1500);
        Due.is("a REEL by now", x.play(0, 1), 1);
        x.reel(0, 1);
        x.record(0, 0, 250);
        Due.is("another one", x.play(0, 1), 1);
        Due.is("LEVEL of both", x.told(0, 3), bits(1.75));
        x.drop(0);
        Due.is("NOTHING again", x.play(0, 1), 0);
        Due.is("LEVEL as it was", x.told(0, 3), bits(1.75));
    }

    /** A DECK of SPEED 0.0 whose HEAD is set by a cue. */
    private static TapeDecks headAt(int cue) {
        TapeDecks x = rows();
        x.record(0, 0, 1000);
        x.record(0, 1, 2000);
        x.record(0, 2, 3000);
        x.deck(0, 0, 1000000);
        x.cue(1, 0, cue);
        x.seek(0, 1, 0);
        return x;
    }

    private static void headAsAnInt() {
        int[] heads = {0, 999, 1000, 1999, 2000, 2999, -1, -500, -999};
        int[] samples = {1, 1, 2, 2, 3, 3, 1, 1, 1};
        for (int k = 0; k < heads.length; k++) {
            TapeDecks x = headAt(heads[k]);
            Due.is("HEAD " + heads[k], x.play(0, 1), 1);
            Due.is("its sample", x.told(0, 3), bits((double) samples[k]));
        }
        for (int head : new int[] {3000, 3001, 30000, 999999, -1000, -1001, -999999}) {
            TapeDecks x = headAt(head);
            Due.is("HEAD " + head, x.play(0, 1), 0);
            Due.is("is BEYOND", x.finding(), BEYOND);
        }
    }

    private static void headBelowTheEnd() {
        TapeDecks x = rows();
        x.reel(0, 30);
        x.record(0, 29, 500);
        x.deck(0, 0, 30000);
        x.cue(1, 0, 29999);
        x.seek(0, 1, 0);
        Due.is("the last of 30", x.play(0, 1), 1);
        Due.is("its sample", x.told(0, 3), bits(0.5));
        x.deck(0, 0, 30001);
        x.cue(1, 0, 30000);
        x.seek(1, 1, 0);
        Due.is("behind the last of 30", x.play(1, 1), 0);
    }

    /** LEVEL behind one TICK of each of these samples. */
    private static long levelOf(int... samples) {
        TapeDecks x = new TapeDecks();
        x.reel(0, samples.length);
        for (int i = 0; i < samples.length; i++) {
            x.record(0, i, samples[i]);
        }
        x.deck(0, 1000, 1000000);
        Due.is("all its TICKS", x.play(0, samples.length), samples.length);
        return x.told(0, 3);
    }

    private static void levelByItsEnd() {
        Due.is("4096.0", levelOf(4096000), 0);
        Due.is("-4096.0", levelOf(-4096000), bits(-0.0));
        Due.is("below it", levelOf(4095999), bits((double) 4095.999f));
        Due.is("above it", levelOf(4096001), bits((double) (4096001 / 1000.0f) % 4096.0));
        Due.is("below its other end", levelOf(-4096001), bits((double) (-4096001 / 1000.0f) % 4096.0));
        Due.is("ahead of its other end", levelOf(-4095999), bits((double) -4095.999f));
        Due.is("twice it", levelOf(4096000, 4096000), 0);
        Due.is("by steps", levelOf(4095000, 500, 500), 0);
        Due.is("by steps, and on", levelOf(4095000, 500, 500, 250), bits(0.25));
        Due.is("the greatest that is GIVEN", levelOf(MAX), bits((double) (MAX / 1000.0f) % 4096.0));
        Due.is("the least that is GIVEN", levelOf(MIN), bits((double) (MIN / 1000.0f) % 4096.0));
    }

    private static void levelIsADouble() {
        double due = 0.0;
        for (int k = 0; k < 3; k++) {
            due = (due + (double) 0.1f) % 4096.0;
        }
        Due.is("0.1 three times", levelOf(100, 100, 100), bits(due));
        Due.holds("floats would tell another", bits(due) != bits((double) (0.1f + 0.1f + 0.1f)));
        Due.holds("doubles from the start too", bits(due) != bits(0.1 + 0.1 + 0.1));
    }

    private static void levelOfZeros() {
        Due.is("0.0 and 0.0", levelOf(0), 0);
        Due.is("-0.0 and 0.0", levelOf(-4096000, 0), 0);
        Due.is("there and back", levelOf(1500, -1500), 0);
        TapeDecks x = rows();
        x.record(0, 0, -1000);
        x.left(0, false, 0, 0);
        x.deck(0, 0, 1000);
        x.play(0, 1);
        Due.is("0.0 and -0.0", x.told(0, 3), 0);
        x.record(0, 0, -4096000);
        x.play(0, 1);
        Due.is("-0.0", x.told(0, 3), bits(-0.0));
        x.record(0, 0, -1000);
        x.left(0, false, 0, 0);
        x.play(0, 1);
        Due.is("-0.0 and -0.0", x.told(0, 3), bits(-0.0));
    }

    /** The greatest sample that has an end is still LEFT by 4096.0. */
    private static void levelOfTheGreatest() {
        TapeDecks x = rows();
        x.record(0, 0, 65535996);
        Worlds.louder(x, 0, false, 0, 3);
        float great = 65535.996f;
        for (int k = 0; k < 3; k++) {
            great *= great;
        }
        Due.is("it has an end", x.at(0, false, 0), bits(great));
        x.record(0, 1, 1500);
        x.deck(0, 1000, 2000);
        Due.is("two TICKS", x.play(0, 2), 2);
        Due.is("LEVEL", x.told(0, 3), bits((double) great % 4096.0 + 1.5));
        x.record(0, 0, 65536000);
        Worlds.louder(x, 0, false, 0, 3);
        Due.is("the next one has none", x.play(0, 1), 0);
        Due.is("ZERO", x.finding(), ZERO);
        Due.is("LEVEL as it was", x.told(0, 3), bits((double) great % 4096.0 + 1.5));
    }

    /** HEAD behind so many TICKS over a REEL that is long enough. */
    private static long headOf(int speed, int loop, int ticks) {
        TapeDecks x = new TapeDecks();
        x.reel(0, 30);
        x.deck(0, speed, loop);
        Due.is("all its TICKS", x.play(0, ticks), ticks);
        return x.told(0, 0);
    }

    private static void headByLoop() {
        Due.is("LOOP itself", headOf(3000, 3000, 1), 0);
        Due.is("LOOP itself by steps", headOf(1000, 3000, 3), 0);
        Due.is("below LOOP", headOf(2999, 3000, 1), bits(2.999f));
        Due.is("above LOOP", headOf(3001, 3000, 1), bits(3.001f % 3.0f));
        Due.is("-LOOP", headOf(-3000, 3000, 1), bits(-0.0f));
        Due.is("above -LOOP", headOf(-2999, 3000, 1), bits(-2.999f));
        Due.is("below -LOOP", headOf(-3001, 3000, 1), bits(-3.001f % 3.0f));
        Due.is("a SPEED of 0.0", headOf(0, 1, 100), 0);
        Due.is("the least LOOP", headOf(1, 1, 100), 0);
        Due.is("far above LOOP", headOf(MAX, 7, 1), bits((MAX / 1000.0f) % 0.007f));
        Due.is("far below -LOOP", headOf(MIN, 7, 1), bits((MIN / 1000.0f) % 0.007f));
        Due.is("the greatest LOOP", headOf(MAX, MAX, 1), 0);
    }

    private static void headIsAFloat() {
        float due = 0.0f;
        for (int k = 0; k < 50; k++) {
            due = (due + 333 / 1000.0f) % (2500 / 1000.0f);
        }
        Due.is("333 fifty times by 2500", headOf(333, 2500, 50), bits(due));
        double wide = 0.0;
        for (int k = 0; k < 50; k++) {
            wide = (wide + 333 / 1000.0f) % (2500 / 1000.0f);
        }
        Due.holds("doubles would tell another", bits(due) != bits((float) wide));
    }

    /** A HEAD of -0.0 is at sample 0, and -0.0 and 0.0 make 0.0. */
    private static void headOfMinusZero() {
        TapeDecks x = rows();
        x.deck(0, -3000, 3000);
        x.play(0, 1);
        Due.is("-0.0", x.told(0, 0), bits(-0.0f));
        x.speed(0, 0);
        Due.is("its TICK", x.play(0, 1), 1);
        Due.is("0.0", x.told(0, 0), 0);
    }

    /** A TICK adds the sample of the HEAD that was, and only then moves it. */
    private static void sampleAheadOfTheMove() {
        TapeDecks x = rows();
        x.record(0, 0, 1000);
        x.record(0, 2, 5000);
        x.deck(0, 2000, 3000);
        x.play(0, 1);
        Due.is("LEVEL", x.told(0, 3), bits(1.0));
        Due.is("HEAD", x.told(0, 0), bits(2.0f));
    }

    private static void earsAtFirst() {
        TapeDecks x = new TapeDecks();
        x.deck(0, 0, 1);
        Due.is("NOTHING at first, to hear", x.hear(0), Due.FAR - 31);
        Due.is("NOTHING at first, for an EAR", x.ear(0, 0, 0), NOTHING);
        for (int n = 0; n <= 5; n++) {
            Due.is(n + " places", x.ears(n % 2 == 0, n), 1);
            Due.is("they are empty", x.count(2), 0);
            for (int i = 0; i < n; i++) {
                Due.is("empty at " + i, x.hear(i), Due.FAR - 31);
                Due.is("an EAR at " + i, x.ear(i, 1, 0), 1);
            }
            Due.is("no more", x.ear(n, 1, 0), BEYOND);
            Due.is("all of them", x.count(2), n);
        }
        Due.is("six", x.ears(false, 6), -2);
    }

    /** What a DULL and a SHARP EAR hear behind these samples. */
    private static void heard(String name, long dull, long sharp, int... samples) {
        TapeDecks x = new TapeDecks();
        x.reel(0, samples.length);
        for (int i = 0; i < samples.length; i++) {
            x.record(0, i, samples[i]);
        }
        x.deck(0, 1000, 1000000);
        x.ears(false, 2);
        x.ear(0, 0, 0);
        x.ear(1, 1, 0);
        x.play(0, samples.length);
        Due.is(name + ", DULL", x.hear(0), dull);
        Due.is(name + ", SHARP", x.hear(1), sharp);
    }

    private static void hearsCut() {
        heard("0.0", 0, 0, 0);
        heard("0.999", 0, 0, 999);
        heard("1.0", 0, 1000, 1000);
        heard("1.999", 0, 1000, 1999);
        heard("2.0", 1, 2000, 2000);
        heard("3.999", 1, 3000, 3999);
        heard("4.0", 2, 4000, 4000);
        heard("-0.999", 0, 0, -999);
        heard("-1.0", 0, -1000, -1000);
        heard("-1.999", 0, -1000, -1999);
        heard("-2.0", -1, -2000, -2000);
        heard("-3.999", -1, -3000, -3999);
        heard("-4.0", -2, -4000, -4000);
        heard("the most", 2047, 4095000, 4095999);
        heard("the least", -2047, -4095000, -4095999);
        heard("4096.0", 0, 0, 4096000);
        heard("-0.0", 0, 0, -4096000);
    }

    private static void hearsItsOwnDeck() {
        TapeDecks x = rows();
        x.record(0, 0, 8000);
        x.deck(0, 0, 1000);
        x.deck(0, 0, 1000);
        x.ears(false, 3);
        x.ear(0, 0, 0);
        x.ear(1, 1, 1);
        x.ear(2, 1, 0);
        x.play(0, 1);
        Due.is("of DECK 0", x.hear(0), 4);
        Due.is("of DECK 1, that is still", x.hear(1), 0);
        Due.is("of DECK 0 too", x.hear(2), 8000);
        x.play(0, 1);
        x.play(1, 1);
        Due.is("LEVEL as it is by now", x.hear(0), 8);
        Due.is("and of the other", x.hear(1), 8000);
        Due.is("hearing changes nothing", x.hear(0), 8);
    }

    public static void main(String[] args) {
        Due.test("GIVEN: as a float n, made one, by 1000.0 (as floats are divided)", TermsTest::givenAsFloat);
        Due.test("GIVEN: SPEED and LOOP", TermsTest::givenAsFloatToDecks);
        Due.test("GIVEN: as a double n by 1000.0", TermsTest::givenAsDouble);
        Due.test("GIVEN: 0", TermsTest::givenZero);
        Due.test("at most 512 calls", TermsTest::lastOfCalls);
        Due.test("BITS: those of a float as an int", TermsTest::bitsOfFloats);
        Due.test("BITS: those of a double", TermsTest::bitsOfDoubles);
        Due.test("BITS: of the least", TermsTest::bitsOfTheLeast);
        Due.test("LEFT: x % y as Java has it (the sign of x)", TermsTest::signOfLeft);
        Due.test("THE SHELF has places 0 to 9, NOTHING at first", TermsTest::places);
        Due.test("a row of 0 to 30", TermsTest::rowsOfNoneAndOfThirty);
        Due.test("FINDINGS are answered as -30 less them", TermsTest::numbersOfFindings);
        Due.test("NOTHING may be TAKEN for all", TermsTest::nothingIsTakenForAll);
        Due.test("CAST comes ahead of BEYOND", TermsTest::castAheadOfBeyond);
        Due.test("DECKS 0 to 7, as they come", TermsTest::decksAsTheyCome);
        Due.test("a HEAD, a LEVEL of each", TermsTest::sharedPlaceOfDecks);
        Due.test("TICK: what its place holds", TermsTest::whatThePlaceHoldsThen);
        Due.test("TICK: the place that HEAD is as an int (BEYOND)", TermsTest::headAsAnInt);
        Due.test("TICK: the last place of 30", TermsTest::headBelowTheEnd);
        Due.test("TICK: LEFT of that by 4096.0", TermsTest::levelByItsEnd);
        Due.test("TICK: added as a double", TermsTest::levelIsADouble);
        Due.test("TICK: LEVEL of zeros", TermsTest::levelOfZeros);
        Due.test("TICK: ZERO, if it is endless", TermsTest::levelOfTheGreatest);
        Due.test("TICK: HEAD becomes LEFT of (HEAD and SPEED) by LOOP", TermsTest::headByLoop);
        Due.test("TICK: HEAD is a float", TermsTest::headIsAFloat);
        Due.test("TICK: a HEAD of -0.0", TermsTest::headOfMinusZero);
        Due.test("TICK: then HEAD", TermsTest::sampleAheadOfTheMove);
        Due.test("THE EARS: NOTHING, or 0 to 5 places, empty at first", TermsTest::earsAtFirst);
        Due.test("a DULL one HEARS LEVEL as an int, by 2 (cut); a SHARP one 1000 times", TermsTest::hearsCut);
        Due.test("an EAR belongs to a DECK", TermsTest::hearsItsOwnDeck);
        Due.end();
    }
}
