/** The edges that promises 1 to 12, 20 and 21 name; refusals and FINDINGS of theirs are in NothingElseTest. */
public final class ShelfEdgesTest {
    private static final int MIN = Integer.MIN_VALUE, MAX = Integer.MAX_VALUE;
    private static final int NOTHING = -31, BEYOND = -32, CAST = -33, ZERO = -36;

    private static long bits(float f) {
        return Float.floatToRawIntBits(f);
    }

    private static long bits(double d) {
        return Double.doubleToRawLongBits(d);
    }

    /** A REEL of three at place 0, a LIST of three at 1, a TAG at 2. */
    private static TapeDecks rows() {
        TapeDecks x = new TapeDecks();
        x.reel(0, 3);
        x.list(1, 3);
        x.tag(2, 77);
        return x;
    }

    private static void newObject() {
        Worlds.full();
        Worlds.open();
        Look one = new Look(new TapeDecks());
        for (long count : one.counts) {
            Due.is("nothing is counted", count, 0);
        }
        Due.is("finding()", one.finding, 0);
        TapeDecks x = new TapeDecks();
        TapeDecks y = new TapeDecks();
        x.reel(0, 3);
        x.deck(0, 0, 1000);
        x.ears(true, 2);
        x.play(0, 1);
        x.record(0, 3, 0);
        new Look(y).isAs(one, 0, 0);
    }

    private static void reelOverAll() {
        for (int place = 0; place <= 9; place++) {
            TapeDecks x = Worlds.full();
            Due.is("reel(" + place + ", 2)", x.reel(place, 2), 1);
            Due.is("0.0", x.at(place, false, 0), 0);
            Due.is("0.0 too", x.at(place, false, 1), 0);
            Due.is("no third", Due.thrownByAt(x, place, false, 2), Due.ARRAY_INDEX);
            Due.is("a REEL", x.drop(place), 1);
        }
    }

    private static void listOverAll() {
        for (int place = 0; place <= 9; place++) {
            TapeDecks x = Worlds.full();
            Due.is("list(" + place + ", 2)", x.list(place, 2), 1);
            Due.is("0.0", x.at(place, true, 0), 0);
            Due.is("0.0 too", x.at(place, true, 1), 0);
            Due.is("no third", Due.thrownByAt(x, place, true, 2), Due.ARRAY_INDEX);
            Due.is("a LIST", x.drop(place), 2);
        }
    }

    private static void sizes() {
        for (int n = 0; n <= 30; n++) {
            TapeDecks x = new TapeDecks();
            Due.is("reel(0, " + n + ")", x.reel(0, n), 1);
            Due.is("list(9, " + n + ")", x.list(9, n), 1);
            Due.is("behind the samples", x.record(0, n, 1), BEYOND);
            Due.is("behind the cues", x.cue(9, n, 1), BEYOND);
            if (n > 0) {
                Due.is("the last sample", x.record(0, n - 1, 1), 1);
                Due.is("the last cue", x.cue(9, n - 1, 1), 1);
            }
        }
    }

    private static void newRowIsNew() {
        TapeDecks x = rows();
        x.record(0, 0, 1500);
        x.cue(1, 0, 1500);
        x.share(3, 0);
        x.share(4, 1);
        x.reel(0, 3);
        x.list(1, 3);
        Due.is("0.0 in the new REEL", x.at(0, false, 0), 0);
        Due.is("0.0 in the new LIST", x.at(1, true, 0), 0);
        Due.is("the old REEL where it is shared", x.at(3, false, 0), bits(1.5f));
        Due.is("the old LIST where it is shared", x.at(4, true, 0), bits(1.5));
        x.record(0, 0, 250);
        x.cue(1, 0, 250);
        Due.is("the old REEL is another one", x.at(3, false, 0), bits(1.5f));
        Due.is("the old LIST is another one", x.at(4, true, 0), bits(1.5));
    }

    private static void tagOverAll() {
        for (int place = 0; place <= 9; place++) {
            TapeDecks x = Worlds.full();
            Due.is("tag(" + place + ", 5)", x.tag(place, 5), 1);
            Due.is("its number", x.number(place), 5);
            Due.is("a TAG", x.drop(place), 3);
        }
    }

    private static void numbersOfTags() {
        TapeDecks x = new TapeDecks();
        int[] numbers = {0, 1, -1, MIN, MAX, -2000000000, -2000000001, -2000000031, -2000000033};
        for (int number : numbers) {
            Due.is("tag(0, " + number + ")", x.tag(0, number), 1);
            Due.is("number(0)", x.number(0), number);
        }
        Due.is("no FINDING", x.count(3) + x.count(5), 0);
    }

    private static void shareNothing() {
        for (int place = 0; place <= 9; place++) {
            TapeDecks x = Worlds.full();
            Due.is("share(" + place + ", 3)", x.share(place, Worlds.NONE), 1);
            Due.is("NOTHING there", x.drop(place), 0);
            Due.is("it is no FINDING", x.count(3), 0);
        }
    }

    private static void shareOfEach() {
        for (int from = 0; from <= 9; from++) {
            TapeDecks x = Worlds.full();
            int sort = x.drop(from);
            x = Worlds.full();
            Due.is("share(3, " + from + ")", x.share(3, from), 1);
            Due.is("what it holds", x.drop(3), sort);
            Due.is("the other one still", x.drop(from), from == 3 ? 0 : sort);
        }
    }

    private static void shareItself() {
        for (int place = 0; place <= 9; place++) {
            TapeDecks x = Worlds.full();
            Due.is("share(" + place + ", " + place + ")", x.share(place, place), 1);
            new Look(x).isAs(new Look(Worlds.full()), 0, 0);
        }
    }

    private static void sameRow() {
        TapeDecks x = rows();
        x.share(3, 0);
        x.share(4, 3);
        x.record(0, 0, 1500);
        Due.is("recorded at one, told at another", x.at(4, false, 0), bits(1.5f));
        x.loud(4, false, 0);
        Due.is("and back", x.at(0, false, 0), bits(2.25f));
        x.record(3, 1, 1000);
        x.left(4, false, 0, 1);
        Due.is("LEFT too", x.at(3, false, 0), bits(0.25f));
        x.share(5, 1);
        x.stamp(3, 5, 2, 6);
        Due.is("a stamp of the sample", x.at(0, false, 2), bits(6.0f));
        Due.is("a stamp of the cue", x.at(1, true, 2), bits(6.0));
        x.drop(0);
        Due.is("still there behind a drop", x.at(4, false, 2), bits(6.0f));
        Due.is("places in use", x.count(1), 5);
    }

    private static void drops() {
        TapeDecks x = Worlds.full();
        int[] due = {1, 2, 3, 0, 1, 2, 1, 2, 1, 1};
        for (int place = 0; place <= 9; place++) {
            Due.is("places in use", x.count(1), 9 - place + (place <= Worlds.NONE ? 0 : 1));
            Due.is("drop(" + place + ")", x.drop(place), due[place]);
            Due.is("drop(" + place + ") again", x.drop(place), 0);
        }
        Due.is("none in use", x.count(1), 0);
        Due.is("no FINDING", x.count(3), 0);
    }

    private static void oneAlone() {
        TapeDecks x = rows();
        for (int i = 0; i < 3; i++) {
            x.record(0, i, 1000 + i);
            x.cue(1, i, 2000 + i);
        }
        x.record(0, 1, 5);
        x.cue(1, 1, 5);
        Due.is("the sample ahead", x.at(0, false, 0), bits(1.0f));
        Due.is("the sample", x.at(0, false, 1), bits(0.005f));
        Due.is("the sample behind", x.at(0, false, 2), bits(1.002f));
        Due.is("the cue ahead", x.at(1, true, 0), bits(2.0));
        Due.is("the cue", x.at(1, true, 1), bits(0.005));
        Due.is("the cue behind", x.at(1, true, 2), bits(2.002));
        x.loud(0, false, 1);
        x.loud(1, true, 1);
        x.left(0, false, 0, 2);
        x.left(1, true, 0, 2);
        Due.is("what LEFT is by, a sample", x.at(0, false, 2), bits(1.002f));
        Due.is("what LEFT is by, a cue", x.at(1, true, 2), bits(2.002));
        Due.is("the sample louder", x.at(0, false, 1), bits(0.005f * 0.005f));
        Due.is("the cue louder", x.at(1, true, 1), bits(0.005 * 0.005));
    }

    private static void leftByItself() {
        TapeDecks x = rows();
        for (int n : new int[] {1, 2500, MAX, -1, -2500, MIN}) {
            x.record(0, 0, n);
            x.cue(1, 0, n);
            Due.is("left of sample " + n, x.left(0, false, 0, 0), 1);
            Due.is("left of cue " + n, x.left(1, true, 0, 0), 1);
            Due.is("its sign", x.at(0, false, 0), bits(n < 0 ? -0.0f : 0.0f));
            Due.is("its sign, a cue", x.at(1, true, 0), bits(n < 0 ? -0.0 : 0.0));
            Due.is("by what is 0.0 by now", x.left(0, false, 0, 0), ZERO);
            Due.is("by a cue that is 0.0 by now", x.left(1, true, 0, 0), ZERO);
        }
    }

    private static void leftOfZero() {
        TapeDecks x = rows();
        x.record(0, 1, -2500);
        x.cue(1, 1, -2500);
        Due.is("left of 0.0", x.left(0, false, 0, 1), 1);
        Due.is("0.0", x.at(0, false, 0), 0);
        Due.is("left of a cue 0.0", x.left(1, true, 0, 1), 1);
        Due.is("a cue 0.0", x.at(1, true, 0), 0);
        x.record(0, 0, -2500);
        x.left(0, false, 0, 1);
        x.cue(1, 0, -2500);
        x.left(1, true, 0, 1);
        Due.is("left of -0.0", x.left(0, false, 0, 1), 1);
        Due.is("-0.0", x.at(0, false, 0), bits(-0.0f));
        Due.is("left of a cue -0.0", x.left(1, true, 0, 1), 1);
        Due.is("a cue -0.0", x.at(1, true, 0), bits(-0.0));
        Due.is("by -0.0", x.left(0, false, 1, 0), ZERO);
        Due.is("by a cue -0.0", x.left(1, true, 1, 0), ZERO);
        Due.is("-0.0 by -0.0", x.left(0, false, 0, 0), ZERO);
        Due.is("ZERO met", x.count(8), 3);
    }

    private static void leftByEndless() {
        TapeDecks x = rows();
        Worlds.endlessSample(x, 0, 2);
        Worlds.endlessCue(x, 1, 2);
        for (int n : new int[] {0, 1, -1, 2500, -2500, MAX, MIN}) {
            x.record(0, 0, n);
            x.cue(1, 0, n);
            Due.is("left of sample " + n, x.left(0, false, 0, 2), 1);
            Due.is("as it was", x.at(0, false, 0), bits(n / 1000.0f));
            Due.is("left of cue " + n, x.left(1, true, 0, 2), 1);
            Due.is("a cue as it was", x.at(1, true, 0), bits(n / 1000.0));
        }
    }

    /** The greatest numbers by the least: each step of the way is exact. */
    private static void leftFarApart() {
        for (int n : new int[] {1, 3, 4, 7, 333, 999}) {
            TapeDecks x = rows();
            float sample = n / 1000.0f;
            double cue = n / 1000.0;
            x.record(0, 0, 65535996);
            x.record(0, 1, n);
            x.cue(1, 0, 65535999);
            x.cue(1, 1, n);
            Worlds.louder(x, 0, false, 0, 3);
            Worlds.louder(x, 0, false, 1, 3);
            Worlds.louder(x, 1, true, 0, 6);
            Worlds.louder(x, 1, true, 1, 6);
            float greatSample = squared(65535.996f, 3);
            double greatCue = squared(65535.999, 6);
            Due.is("left of samples", x.left(0, false, 0, 1), 1);
            Due.is("by " + n + " of samples", x.at(0, false, 0), bits(greatSample % squared(sample, 3)));
            Due.is("left of cues", x.left(1, true, 0, 1), 1);
            Due.is("by " + n + " of cues", x.at(1, true, 0), bits(greatCue % squared(cue, 6)));
        }
    }

    private static float squared(float f, int often) {
        float by = f;
        for (int k = 0; k < often; k++) {
            by *= by;
        }
        return by;
    }

    private static double squared(double d, int often) {
        double by = d;
        for (int k = 0; k < often; k++) {
            by *= by;
        }
        return by;
    }

    private static void loudToTheEnd() {
        TapeDecks x = rows();
        x.record(0, 0, 65535996);
        x.record(0, 1, 65536000);
        x.cue(1, 0, 65535999);
        x.cue(1, 1, 65536000);
        Worlds.louder(x, 0, false, 0, 3);
        Worlds.louder(x, 0, false, 1, 3);
        Worlds.louder(x, 1, true, 0, 6);
        Worlds.louder(x, 1, true, 1, 6);
        Due.is("the last sample with an end", x.at(0, false, 0), bits(squared(65535.996f, 3)));
        Due.holds("it has one", squared(65535.996f, 3) <= Float.MAX_VALUE);
        Due.is("the first without one", x.at(0, false, 1), bits(Float.POSITIVE_INFINITY));
        Due.is("the last cue with an end", x.at(1, true, 0), bits(squared(65535.999, 6)));
        Due.holds("a cue with one", squared(65535.999, 6) <= Double.MAX_VALUE);
        Due.is("the first cue without one", x.at(1, true, 1), bits(Double.POSITIVE_INFINITY));
        Due.is("once more", x.loud(0, false, 0), 1);
        Due.is("endless by now", x.at(0, false, 0), bits(Float.POSITIVE_INFINITY));
        Due.is("endless for good", x.loud(0, false, 0), 1);
        Due.is("as it was", x.at(0, false, 0), bits(Float.POSITIVE_INFINITY));
        Due.is("a cue endless for good", x.loud(1, true, 1), 1);
        Due.is("a cue as it was", x.at(1, true, 1), bits(Double.POSITIVE_INFINITY));
        Due.is("what is endless is no FINDING", x.count(8), 0);
        x.record(0, 1, 1500);
        Due.is("and can be recorded over", x.at(0, false, 1), bits(1.5f));
    }

    private static void loudOfZeros() {
        TapeDecks x = rows();
        x.record(0, 0, -1000);
        x.left(0, false, 0, 0);
        x.cue(1, 0, -1000);
        x.left(1, true, 0, 0);
        Due.is("loud of -0.0", x.loud(0, false, 0), 1);
        Due.is("0.0", x.at(0, false, 0), 0);
        Due.is("loud of a cue -0.0", x.loud(1, true, 0), 1);
        Due.is("a cue 0.0", x.at(1, true, 0), 0);
        Due.is("loud of 0.0", x.loud(0, false, 2), 1);
        Due.is("0.0 still", x.at(0, false, 2), 0);
        x.record(0, 1, -1);
        x.cue(1, 1, -1);
        Worlds.louder(x, 0, false, 1, 5);
        Worlds.louder(x, 1, true, 1, 8);
        Due.is("too small becomes 0.0", x.at(0, false, 1), 0);
        Due.is("a cue too small becomes 0.0", x.at(1, true, 1), 0);
    }

    /** Rounded once, as floats are multiplied. */
    private static void loudInFloats() {
        TapeDecks x = rows();
        for (int n = -5000; n < 5000; n += 137) {
            x.record(0, 0, n);
            x.loud(0, false, 0);
            Due.is("sample " + n, x.at(0, false, 0), bits((n / 1000.0f) * (n / 1000.0f)));
            x.cue(1, 0, n);
            x.loud(1, true, 0);
            Due.is("cue " + n, x.at(1, true, 0), bits((n / 1000.0) * (n / 1000.0)));
        }
    }

    private static void atTellsAll() {
        TapeDecks x = rows();
        int[] counted = new int[9];
        for (int what = 0; what <= 8; what++) {
            counted[what] = x.count(what);
        }
        Due.is("CAST", Due.thrownByAt(x, 2, false, 0), Due.CLASS_CAST);
        Due.is("NOTHING", Due.thrownByAt(x, 9, false, 0), Due.NULL_POINTER);
        Due.is("BEYOND", Due.thrownByAt(x, 0, false, 3), Due.ARRAY_INDEX);
        Due.is("UNKNOWN", x.at(10, false, 0), 0);
        for (int what = 0; what <= 8; what++) {
            Due.is("counts none, " + what, x.count(what), counted[what]);
        }
    }

    /** What a sample that was stamped is cut to, of each kind. */
    private static void cutOf(long stamped) {
        TapeDecks x = rows();
        x.stamp(0, 1, 0, stamped);
        float f = (float) stamped;
        long[] due = {(long) f, (long) (double) f, (int) f, (short) f, (byte) f};
        for (int to = 0; to <= 4; to++) {
            Due.is("a sample of " + stamped + " to " + to, x.cut(0, 0, to), due[to]);
        }
    }

    private static void cutAtTheEnds() {
        long[] ends = {0, 1, -1, 127, 128, 129, -128, -129, 255, 256, 32767, 32768, 32769, -32768, -32769, 65535, 65536,
            16777216, 2147483520L, 2147483647L, 2147483648L, -2147483648L, -2147483904L, 4294967296L, 1L << 62,
            Long.MAX_VALUE - (1L << 39), Long.MAX_VALUE, Long.MIN_VALUE, Long.MIN_VALUE + (1L << 40), -(1L << 62)};
        for (long stamped : ends) {
            cutOf(stamped);
        }
    }

    private static void cutOfEndless() {
        TapeDecks x = rows();
        Worlds.endlessSample(x, 0, 1);
        Due.is("a long", x.cut(0, 1, 0), Long.MAX_VALUE);
        Due.is("of it as a double", x.cut(0, 1, 1), Long.MAX_VALUE);
        Due.is("an int", x.cut(0, 1, 2), MAX);
        Due.is("a short", x.cut(0, 1, 3), -1);
        Due.is("a byte", x.cut(0, 1, 4), -1);
    }

    private static void cutTowardsZero() {
        TapeDecks x = rows();
        int[] given = {999, -999, 1999, -1999, 127999, 128000, -128999, -129000, 32767999, 32768000, MAX, MIN, 0};
        for (int n : given) {
            x.record(0, 2, n);
            float f = n / 1000.0f;
            long[] due = {(long) f, (long) (double) f, (int) f, (short) f, (byte) f};
            for (int to = 0; to <= 4; to++) {
                Due.is("a sample given as " + n + " to " + to, x.cut(0, 2, to), due[to]);
            }
        }
        x.record(0, 2, -1);
        x.left(0, false, 2, 2);
        Due.is("-0.0", x.cut(0, 2, 0), 0);
    }

    private static void stamped(long v, int due) {
        TapeDecks x = rows();
        Due.is("stamp of " + v, x.stamp(0, 1, 2, v), due);
        Due.is("the nearest float of " + v, x.at(0, false, 2), bits((float) v));
        Due.is("the nearest double of " + v, x.at(1, true, 2), bits((double) v));
        Due.is("the float as a long", x.cut(0, 2, 0), (long) (float) v);
        for (int i = 0; i < 2; i++) {
            Due.is("sample " + i, x.at(0, false, i), 0);
            Due.is("cue " + i, x.at(1, true, i), 0);
        }
    }

    private static void stampsThatAreTold() {
        long[] both = {0, 1, -1, 16777215, 16777216, -16777216, 16777218, 33554432, 1L << 52, 1L << 53, (1L << 53) + (1L << 30),
            1L << 62, -(1L << 62), Long.MIN_VALUE, Long.MAX_VALUE, Long.MIN_VALUE + (1L << 39), (1L << 60) - (1L << 36)};
        for (long v : both) {
            stamped(v, 1);
        }
    }

    private static void stampsThatAreNot() {
        long[] not = {16777217, -16777217, 16777219, 33554434, 33554433, (1L << 53) - 1, (1L << 53) + 1, (1L << 53) + 3,
            (1L << 54) + 2, Long.MAX_VALUE - 1, Long.MIN_VALUE + 1, Long.MIN_VALUE + (1L << 38), (1L << 62) + 1,
            (1L << 60) + (1L << 36) + 1, (1L << 60) - (1L << 35), 123456789012345678L};
        for (long v : not) {
            stamped(v, 0);
        }
    }

    private static void stampOfOtherPlaces() {
        TapeDecks x = new TapeDecks();
        x.reel(9, 30);
        x.list(0, 30);
        Due.is("the last places", x.stamp(9, 0, 29, 5), 1);
        Due.is("the sample", x.at(9, false, 29), bits(5.0f));
        Due.is("the cue", x.at(0, true, 29), bits(5.0));
        Due.is("behind them", x.stamp(9, 0, 30, 5), BEYOND);
        Due.is("the one for the other", x.stamp(0, 9, 0, 5), CAST);
        x.list(1, 29);
        Due.is("a shorter LIST", x.stamp(9, 1, 29, 7), BEYOND);
        Due.is("the sample as it was", x.at(9, false, 29), bits(5.0f));
        Due.is("no LIST", x.stamp(9, 2, 0, 7), NOTHING);
        Due.is("its sample as it was", x.at(9, false, 0), 0);
        x.reel(3, 29);
        Due.is("a shorter REEL", x.stamp(3, 0, 29, 7), BEYOND);
        Due.is("the cue as it was", x.at(0, true, 29), bits(5.0));
    }

    public static void main(String[] args) {
        Due.test("1 No DECKS; NOTHING on THE SHELF, no EARS", ShelfEdgesTest::newObject);
        Due.test("2 a place holds a new REEL", ShelfEdgesTest::reelOverAll);
        Due.test("3 a place holds a new LIST", ShelfEdgesTest::listOverAll);
        Due.test("2, 3 30 at most", ShelfEdgesTest::sizes);
        Due.test("2, 3 0.0 each", ShelfEdgesTest::newRowIsNew);
        Due.test("4 a place holds a TAG", ShelfEdgesTest::tagOverAll);
        Due.test("4, 12 the number of a TAG", ShelfEdgesTest::numbersOfTags);
        Due.test("5 also NOTHING", ShelfEdgesTest::shareNothing);
        Due.test("5 what another one holds", ShelfEdgesTest::shareOfEach);
        Due.test("5 itself", ShelfEdgesTest::shareItself);
        Due.test("5 the same row", ShelfEdgesTest::sameRow);
        Due.test("6 what it held: 0 NOTHING, 1 a REEL, 2 a LIST, 3 a TAG", ShelfEdgesTest::drops);
        Due.test("7, 8 sample i, cue i", ShelfEdgesTest::oneAlone);
        Due.test("9 at", ShelfEdgesTest::atTellsAll);
        Due.test("10 LEFT of itself by itself", ShelfEdgesTest::leftByItself);
        Due.test("10 LEFT of 0.0 and of -0.0, and by -0.0", ShelfEdgesTest::leftOfZero);
        Due.test("10 LEFT by what is endless", ShelfEdgesTest::leftByEndless);
        Due.test("10 LEFT of the greatest by the least", ShelfEdgesTest::leftFarApart);
        Due.test("11 it may become endless", ShelfEdgesTest::loudToTheEnd);
        Due.test("11 zeros times themselves", ShelfEdgesTest::loudOfZeros);
        Due.test("11 times itself", ShelfEdgesTest::loudInFloats);
        Due.test("20 a long, an int, a short, a byte of it", ShelfEdgesTest::cutAtTheEnds);
        Due.test("20 of what is endless", ShelfEdgesTest::cutOfEndless);
        Due.test("20 by Java's cast", ShelfEdgesTest::cutTowardsZero);
        Due.test("21 1 if both tell it again as longs", ShelfEdgesTest::stampsThatAreTold);
        Due.test("21 else 0", ShelfEdgesTest::stampsThatAreNot);
        Due.test("21 of a REEL, of a LIST of another place", ShelfEdgesTest::stampOfOtherPlaces);
        Due.end();
    }
}
