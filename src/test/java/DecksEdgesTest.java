/** The edges that promises 13 to 19 and 22 name; refusals and FINDINGS of theirs are in NothingElseTest. */
public final class DecksEdgesTest {
    private static final int MIN = Integer.MIN_VALUE, MAX = Integer.MAX_VALUE;
    private static final int UNKNOWN = -1, OUTSIDE = -2, FULL = -4;
    private static final int NOTHING = -31, BEYOND = -32, CAST = -33, ZERO = -36;

    private static long bits(float f) {
        return Float.floatToRawIntBits(f);
    }

    private static long bits(double d) {
        return Double.doubleToRawLongBits(d);
    }

    /** A REEL of three at place 0 (1.0, 2.0, 4.0), a LIST of three at 1. */
    private static TapeDecks rows() {
        TapeDecks x = new TapeDecks();
        x.reel(0, 3);
        x.record(0, 0, 1000);
        x.record(0, 1, 2000);
        x.record(0, 2, 4000);
        x.list(1, 3);
        return x;
    }

    /** rows() with a DECK of this LOOP, whose HEAD is this cue. */
    private static TapeDecks headAt(int cue, int loop) {
        TapeDecks x = rows();
        x.deck(0, 0, loop);
        x.cue(1, 0, cue);
        x.seek(0, 1, 0);
        return x;
    }

    private static void leastLoop() {
        TapeDecks x = rows();
        Due.is("LOOP 0", x.deck(0, 1, 0), OUTSIDE);
        Due.is("LOOP -1", x.deck(0, 1, -1), OUTSIDE);
        Due.is("LOOP MIN", x.deck(0, 1, MIN), OUTSIDE);
        Due.is("none of them came", x.count(0), 0);
        Due.is("LOOP 1", x.deck(0, 1, 1), 0);
        Due.is("LOOP MAX", x.deck(0, 1, MAX), 1);
    }

    private static void anySpeed() {
        TapeDecks x = rows();
        int[] speeds = {0, 1, -1, MIN, MAX};
        for (int k = 0; k < speeds.length; k++) {
            Due.is("SPEED " + speeds[k], x.deck(0, speeds[k], 1), k);
            Due.is("as a float", x.told(k, 1), bits(speeds[k] / 1000.0f));
        }
    }

    private static void anyPlace() {
        TapeDecks x = Worlds.earless();
        Due.is("place -1", x.deck(-1, 1, 1), UNKNOWN);
        Due.is("place 10", x.deck(10, 1, 1), UNKNOWN);
        int[] places = {0, 9, Worlds.LIST, Worlds.TAG, Worlds.NONE, Worlds.NO_SAMPLES};
        for (int k = 0; k < places.length; k++) {
            Due.is("place " + places[k], x.deck(places[k], 1, 1), 1 + k);
        }
    }

    private static void eightDecks() {
        TapeDecks x = rows();
        for (int deck = 0; deck <= 7; deck++) {
            Due.is("so many", x.count(0), deck);
            Due.is("DECK " + deck, x.deck(0, 1, 1), deck);
        }
        Due.is("a ninth", x.deck(0, 1, 1), FULL);
        Due.is("and again", x.deck(1, 5, 5), FULL);
        Due.is("eight", x.count(0), 8);
        Due.is("the last one is as it was", x.told(7, 1), bits(0.001f));
    }

    private static void speedAlone() {
        TapeDecks x = rows();
        x.deck(0, 1000, 2500);
        x.deck(0, 1000, 2500);
        x.play(0, 1);
        Due.is("speed(0, -250)", x.speed(0, -250), 1);
        Due.is("HEAD as it was", x.told(0, 0), bits(1.0f));
        Due.is("SPEED", x.told(0, 1), bits(-0.25f));
        Due.is("LOOP as it was", x.told(0, 2), bits(2.5f));
        Due.is("LEVEL as it was", x.told(0, 3), bits(1.0));
        Due.is("the other DECK as it was", x.told(1, 1), bits(1.0f));
        Due.is("DECK 2", x.speed(2, 1), UNKNOWN);
        Due.is("DECK 1", x.speed(1, 0), 1);
        Due.is("its SPEED", x.told(1, 1), 0);
        x.play(0, 1);
        Due.is("HEAD by the SPEED of now", x.told(0, 0), bits(0.75f));
    }

    private static void ticksFromNoneToAHundred() {
        for (int ticks = 0; ticks <= 100; ticks++) {
            TapeDecks x = rows();
            x.deck(0, 0, 1000);
            Due.is("play of " + ticks, x.play(0, ticks), ticks);
            Due.is("LEVEL", x.told(0, 3), bits((double) ticks));
        }
        TapeDecks x = rows();
        x.deck(0, 0, 1000);
        Due.is("play of 101", x.play(0, 101), OUTSIDE);
        Due.is("play of -1", x.play(0, -1), OUTSIDE);
        Due.is("LEVEL as it was", x.told(0, 3), 0);
    }

    private static void playInParts() {
        TapeDecks x = rows();
        TapeDecks y = rows();
        x.deck(0, 700, 2900);
        y.deck(0, 700, 2900);
        x.play(0, 100);
        for (int k = 0; k < 50; k++) {
            y.play(0, 2);
        }
        Due.is("HEAD", x.told(0, 0), y.told(0, 0));
        Due.is("LEVEL", x.told(0, 3), y.told(0, 3));
    }

    private static void noTicksMeetNone() {
        TapeDecks x = new TapeDecks();
        x.deck(0, 0, 1);
        Due.is("no TICKS of NOTHING", x.play(0, 0), 0);
        Due.is("finding()", x.finding(), 0);
        Due.is("NOTHING met", x.count(3), 0);
    }

    private static void stopsAtTheFirst() {
        TapeDecks x = rows();
        x.deck(0, 1000, 100000);
        Due.is("up to the end", x.play(0, 3), 3);
        Due.is("by none", x.finding(), 0);
        Due.is("BEYOND met", x.count(4), 0);
        Due.is("one more", x.play(0, 100), 0);
        Due.is("by BEYOND", x.finding(), BEYOND);
        Due.is("once a play", x.count(4), 1);
        Due.is("again", x.play(0, 100), 0);
        Due.is("once each", x.count(4), 2);
        Due.is("HEAD where it stopped", x.told(0, 0), bits(3.0f));
        Due.is("LEVEL of what was done", x.told(0, 3), bits(7.0));
        x.speed(0, -1000);
        Due.is("a SPEED does not bring it back", x.play(0, 1), 0);
        x.cue(1, 0, 2000);
        x.seek(0, 1, 0);
        Due.is("a HEAD does", x.play(0, 100), 3);
        Due.is("by BEYOND at the other end", x.finding(), BEYOND);
        Due.is("HEAD there", x.told(0, 0), bits(-1.0f));
        Due.is("LEVEL of both", x.told(0, 3), bits(14.0));
    }

    private static void castAheadOfAll() {
        TapeDecks x = rows();
        x.deck(0, 1000, 100000);
        x.play(0, 3);
        x.list(0, 1);
        x.play(0, 1);
        Due.is("a LIST, with a HEAD that would be BEYOND", x.finding(), CAST);
        x.tag(0, 1);
        x.play(0, 1);
        Due.is("a TAG", x.finding(), CAST);
        x.drop(0);
        x.play(0, 1);
        Due.is("NOTHING, with that HEAD", x.finding(), NOTHING);
        Due.is("BEYOND met", x.count(4), 0);
    }

    private static void findingOfTheLatest() {
        TapeDecks x = rows();
        Due.is("ahead of a play", x.finding(), 0);
        x.deck(9, 0, 1000);
        x.deck(0, 0, 1000);
        x.deck(1, 0, 1000);
        x.play(0, 1);
        Due.is("NOTHING", x.finding(), NOTHING);
        Due.is("told again", x.finding(), NOTHING);
        x.play(2, 1);
        Due.is("CAST of the latest", x.finding(), CAST);
        x.play(1, 1);
        Due.is("0 of one that was done", x.finding(), 0);
        x.play(0, 1);
        x.play(2, 0);
        Due.is("0 of no TICKS", x.finding(), 0);
    }

    private static void findingBehindRefusals() {
        TapeDecks x = rows();
        x.deck(9, 0, 1000);
        x.deck(0, 0, 1000);
        x.play(0, 1);
        x.play(1, 101);
        Due.is("behind OUTSIDE", x.finding(), NOTHING);
        x.play(1, -1);
        Due.is("behind OUTSIDE below", x.finding(), NOTHING);
        x.play(2, 1);
        Due.is("behind UNKNOWN", x.finding(), NOTHING);
        x.play(1, 1);
        x.play(0, 101);
        Due.is("0 as it was", x.finding(), 0);
    }

    private static void findingOfOtherCalls() {
        TapeDecks x = rows();
        x.deck(0, 0, 1000);
        x.record(1, 0, 0);
        x.reel(0, -1);
        x.left(1, true, 0, 0);
        x.hear(0);
        Due.is("they are not told", x.finding(), 0);
        x.play(0, 1);
        x.record(0, 3, 0);
        Due.is("nor behind a play", x.finding(), 0);
    }

    private static void seekByLoop() {
        int[][] pairs = {{2499, 2500}, {2500, 2500}, {2501, 2500}, {5000, 2500}, {-2499, 2500}, {-2500, 2500},
            {-2501, 2500}, {0, 2500}, {MAX, 1}, {MIN, 1}, {MAX, MAX}, {MIN, MAX}, {1, MAX}, {-1, 1}, {333, 1}, {7001, 7}};
        for (int[] pair : pairs) {
            TapeDecks x = headAt(pair[0], pair[1]);
            Due.is("HEAD of " + pair[0] + " by " + pair[1], x.told(0, 0),
                    bits((float) (pair[0] / 1000.0) % (pair[1] / 1000.0f)));
            Due.is("the cue as it was", x.at(1, true, 0), bits(pair[0] / 1000.0));
            Due.is("LEVEL as it was", x.told(0, 3), 0);
        }
    }

    /** The float comes first: 16777217 is told by no float. */
    private static void seekOfTheNearestFloat() {
        TapeDecks x = rows();
        x.deck(0, 0, 3000);
        x.stamp(0, 1, 0, 16777217);
        Due.is("seek", x.seek(0, 1, 0), 1);
        Due.is("HEAD", x.told(0, 0), bits(16777216.0f % 3.0f));
        x.stamp(0, 1, 0, 16777219);
        Due.is("seek up", x.seek(0, 1, 0), 1);
        Due.is("HEAD of the one above", x.told(0, 0), bits(16777220.0f % 3.0f));
        x.stamp(0, 1, 0, Long.MIN_VALUE);
        Due.is("seek far down", x.seek(0, 1, 0), 1);
        Due.is("HEAD from far down", x.told(0, 0), bits(-0x1p63f % 3.0f));
    }

    /** Cues about the end of what floats tell: 2 to the 128th, less a little. */
    private static TapeDecks cueBelowTheEnd(long below) {
        TapeDecks x = rows();
        x.deck(0, 0, 3000);
        x.stamp(0, 1, 2, 1L << 32);
        x.stamp(0, 1, 2, (1L << 32) - below);
        Worlds.louder(x, 1, true, 2, 2);
        return x;
    }

    private static void seekToTheEnd() {
        int ended = 0;
        for (long below = 0; below <= 64; below++) {
            double root = (double) ((1L << 32) - below);
            double square = root * root;
            float cue = (float) (square * square);
            TapeDecks x = cueBelowTheEnd(below);
            Due.is("the cue has an end", x.at(1, true, 2), bits(square * square));
            if (Float.isInfinite(cue)) {
                Due.is("endless as a float, " + below, x.seek(0, 1, 2), ZERO);
                Due.is("HEAD as it was", x.told(0, 0), 0);
                Due.is("ZERO met", x.count(8), 1);
            } else {
                ended++;
                Due.is("taken, " + below, x.seek(0, 1, 2), 1);
                Due.is("HEAD", x.told(0, 0), bits(cue % 3.0f));
            }
        }
        Due.holds("both kinds are there", ended > 20 && ended < 45);
    }

    private static void seekOfEndless() {
        TapeDecks x = rows();
        x.deck(0, 0, 3000);
        Worlds.endlessCue(x, 1, 1);
        Due.is("seek", x.seek(0, 1, 1), ZERO);
        Due.is("HEAD as it was", x.told(0, 0), 0);
    }

    /** A cue that no float is near enough to but 0.0, of its sign. */
    private static void seekOfTheLeast() {
        TapeDecks x = rows();
        x.deck(0, 0, 3000);
        x.cue(1, 0, 3);
        Worlds.louder(x, 1, true, 0, 6);
        Due.is("seek of a little", x.seek(0, 1, 0), 1);
        Due.is("0.0", x.told(0, 0), 0);
        x.cue(1, 1, -1000);
        x.left(1, true, 1, 0);
        Due.holds("there is something below 0.0", x.at(1, true, 1) != bits(-0.0));
        Due.is("seek of a little below", x.seek(0, 1, 1), 1);
        Due.is("-0.0", x.told(0, 0), bits(-0.0f));
    }

    private static void seekOfZeros() {
        TapeDecks x = headAt(1500, 2500);
        Due.is("HEAD", x.told(0, 0), bits(1.5f));
        Due.is("seek of 0.0", x.seek(0, 1, 1), 1);
        Due.is("0.0", x.told(0, 0), 0);
        x.cue(1, 0, -1);
        x.left(1, true, 0, 0);
        Due.is("seek of -0.0", x.seek(0, 1, 0), 1);
        Due.is("-0.0", x.told(0, 0), bits(-0.0f));
        Due.is("no FINDING", x.count(8), 0);
    }

    private static void markAsADouble() {
        for (int cue : new int[] {0, 1, -1, 333, -333, 100, 2499, -2499, -2500, 2500}) {
            TapeDecks x = headAt(cue, 2500);
            float head = (float) (cue / 1000.0) % 2.5f;
            Due.is("mark", x.mark(0, 1, 2), 1);
            Due.is("HEAD " + head, x.at(1, true, 2), bits((double) head));
            Due.is("the cue beside it", x.at(1, true, 1), 0);
            Due.is("HEAD as it was", x.told(0, 0), bits(head));
        }
        TapeDecks x = headAt(-2500, 2500);
        x.mark(0, 1, 0);
        Due.is("-0.0", x.at(1, true, 0), bits(-0.0));
    }

    private static void markOfTheLastPlaces() {
        TapeDecks x = rows();
        x.deck(0, 500, 2500);
        x.play(0, 1);
        x.list(9, 30);
        Due.is("cue 29", x.mark(0, 9, 29), 1);
        Due.is("it is there", x.at(9, true, 29), bits(0.5));
        Due.is("cue 30", x.mark(0, 9, 30), BEYOND);
        Due.is("cue -1", x.mark(0, 9, -1), BEYOND);
        Due.is("seek of cue 29", x.seek(0, 9, 29), 1);
        Due.is("seek of cue 30", x.seek(0, 9, 30), BEYOND);
    }

    private static void framesOf(int cue, int loop) {
        TapeDecks x = headAt(cue, loop);
        float head = (float) (cue / 1000.0) % (loop / 1000.0f);
        float doubled = head;
        for (int often = 0; often <= 140; often++) {
            Due.is("frames of " + head + ", " + often + " times", x.frames(0, often), (long) doubled);
            doubled *= 2.0f;
        }
        Due.is("HEAD as it was", x.told(0, 0), bits(head));
        Due.is("141 times", x.frames(0, 141), Due.FAR - 2);
        Due.is("-1 times", x.frames(0, -1), Due.FAR - 2);
    }

    private static void framesUpToTheEnds() {
        framesOf(0, 1);
        framesOf(1, 1000);
        framesOf(-1, 1000);
        framesOf(1000, 3000);
        framesOf(-1000, 3000);
        framesOf(1500, 3000);
        framesOf(-2999, 3000);
        framesOf(-3000, 3000);
        framesOf(2147483, MAX);
        framesOf(MAX - 1000, MAX);
        framesOf(MIN + 2000, MAX);
    }

    private static void framesAtTheEnds() {
        TapeDecks x = headAt(1000, 3000);
        Due.is("1.0, 62 times", x.frames(0, 62), 1L << 62);
        Due.is("1.0, 63 times", x.frames(0, 63), Long.MAX_VALUE);
        Due.is("1.0, 127 times", x.frames(0, 127), Long.MAX_VALUE);
        Due.is("1.0, 128 times, endless", x.frames(0, 128), Long.MAX_VALUE);
        Due.is("1.0, 140 times, endless", x.frames(0, 140), Long.MAX_VALUE);
        TapeDecks y = headAt(-1000, 3000);
        Due.is("-1.0, 62 times", y.frames(0, 62), -(1L << 62));
        Due.is("-1.0, 63 times", y.frames(0, 63), Long.MIN_VALUE);
        Due.is("-1.0, 64 times", y.frames(0, 64), Long.MIN_VALUE);
        Due.is("-1.0, 128 times, endless", y.frames(0, 128), Long.MIN_VALUE);
        Due.is("-0.0, 140 times", headAt(-3000, 3000).frames(0, 140), 0);
    }

    /** The least HEADs are still doubled exactly. */
    private static void framesOfTheLeast() {
        TapeDecks x = rows();
        x.deck(0, 0, 3000);
        x.cue(1, 0, 4);
        Worlds.louder(x, 1, true, 0, 4);
        x.seek(0, 1, 0);
        float doubled = (float) cueOfTheLeast();
        Due.is("HEAD", x.told(0, 0), bits(doubled));
        Due.holds("too small for a leading one", doubled > 0 && doubled < Float.MIN_NORMAL);
        for (int often = 0; often < 140; often++) {
            doubled *= 2.0f;
        }
        Due.is("140 times", x.frames(0, 140), (long) doubled);
    }

    private static double cueOfTheLeast() {
        double cue = 4 / 1000.0;
        for (int k = 0; k < 4; k++) {
            cue *= cue;
        }
        return cue;
    }

    private static void toldOfEach() {
        TapeDecks x = rows();
        x.deck(0, 1250, 3750);
        x.play(0, 1);
        Due.is("HEAD", x.told(0, 0), bits(1.25f));
        Due.is("SPEED", x.told(0, 1), bits(1.25f));
        Due.is("LOOP", x.told(0, 2), bits(3.75f));
        Due.is("LEVEL", x.told(0, 3), bits(1.0));
        Due.is("what 4", x.told(0, 4), 0);
        Due.is("what -1", x.told(0, -1), 0);
        Due.is("DECK 1", x.told(1, 2), 0);
        Due.is("DECK -1", x.told(-1, 2), 0);
        x.speed(0, -1250);
        Due.is("a float below 0 as an int", x.told(0, 1), bits(-1.25f));
        Due.holds("it is below 0", x.told(0, 1) < 0 && x.told(0, 1) >= MIN);
    }

    public static void main(String[] args) {
        Due.test("13 OUTSIDE: LOOP is not above 0", DecksEdgesTest::leastLoop);
        Due.test("13 SPEED (GIVEN)", DecksEdgesTest::anySpeed);
        Due.test("13 UNKNOWN: the place", DecksEdgesTest::anyPlace);
        Due.test("13 its number; FULL", DecksEdgesTest::eightDecks);
        Due.test("14 SPEED of a DECK becomes a number", DecksEdgesTest::speedAlone);
        Due.test("15 TICKS (0 .. 100)", DecksEdgesTest::ticksFromNoneToAHundred);
        Due.test("15 so many TICKS", DecksEdgesTest::playInParts);
        Due.test("15 no TICKS", DecksEdgesTest::noTicksMeetNone);
        Due.test("15 till one meets a FINDING", DecksEdgesTest::stopsAtTheFirst);
        Due.test("15 CAST comes ahead", DecksEdgesTest::castAheadOfAll);
        Due.test("16 by what the latest play() ended; 0 ahead of one", DecksEdgesTest::findingOfTheLatest);
        Due.test("16 refused, and nothing changes", DecksEdgesTest::findingBehindRefusals);
        Due.test("16 play() alone", DecksEdgesTest::findingOfOtherCalls);
        Due.test("17 LEFT by LOOP", DecksEdgesTest::seekByLoop);
        Due.test("17 as the nearest float", DecksEdgesTest::seekOfTheNearestFloat);
        Due.test("17 the last cue that has an end as a float", DecksEdgesTest::seekToTheEnd);
        Due.test("17 ZERO (it is endless)", DecksEdgesTest::seekOfEndless);
        Due.test("17 a cue too small for a float", DecksEdgesTest::seekOfTheLeast);
        Due.test("17 0.0 and -0.0", DecksEdgesTest::seekOfZeros);
        Due.test("18 HEAD of a DECK, as a double", DecksEdgesTest::markAsADouble);
        Due.test("17, 18 BEYOND", DecksEdgesTest::markOfTheLastPlaces);
        Due.test("19 so often (0 .. 140), in floats", DecksEdgesTest::framesUpToTheEnds);
        Due.test("19 as a long (as Java casts it)", DecksEdgesTest::framesAtTheEnds);
        Due.test("19 of the least HEAD", DecksEdgesTest::framesOfTheLeast);
        Due.test("22 BITS of HEAD, SPEED, LOOP, LEVEL", DecksEdgesTest::toldOfEach);
        Due.end();
    }
}
