/** For each promise of the document: ordinary inputs, the edges it names, and wrong inputs. */
public final class PromisesTest {
    private static final int NOTHING = -31, BEYOND = -32, CAST = -33, SIZE = -34, STORE = -35, ZERO = -36;
    private static final int UNKNOWN = -1, OUTSIDE = -2, FULL = -4;
    private static final int MIN = Integer.MIN_VALUE, MAX = Integer.MAX_VALUE;

    /** Place 0 a REEL of three, 1 a LIST of three, 2 a TAG; 3 and further NOTHING. */
    private static TapeDecks stocked() {
        TapeDecks x = new TapeDecks();
        x.reel(0, 3);
        x.list(1, 3);
        x.tag(2, 77);
        return x;
    }

    private static long bits(float f) {
        return Float.floatToRawIntBits(f);
    }

    private static long bits(double d) {
        return Double.doubleToRawLongBits(d);
    }

    /** Sample i of the REEL at a place becomes endless. */
    private static void makeEndless(TapeDecks x, int place, int i, boolean wide) {
        if (wide) {
            x.cue(place, i, MAX);
        } else {
            x.record(place, i, MAX);
        }
        for (int k = 0; k < 8; k++) {
            x.loud(place, wide, i);
        }
    }

    private static void promise1NewObject() {
        TapeDecks x = new TapeDecks();
        for (int what = 0; what <= 8; what++) {
            Due.is("1 count(" + what + ")", x.count(what), 0);
        }
        Due.is("1 finding()", x.finding(), 0);
        Due.is("1 hear(0)", x.hear(0), Due.FAR - 31);
        for (int place = 0; place <= 9; place++) {
            Due.is("1 drop(" + place + ")", x.drop(place), 0);
        }
        Due.is("1 told(0, 2)", x.told(0, 2), 0);
        Due.is("1 two objects share nothing", stocked().count(1), 3);
        Due.is("1 a later object is new too", new TapeDecks().count(1), 0);
        Due.is("1 UNKNOWN", TapeDecks.UNKNOWN, -1);
        Due.is("1 OUTSIDE", TapeDecks.OUTSIDE, -2);
        Due.is("1 FULL", TapeDecks.FULL, -4);
    }

    private static void promise2Reel() {
        TapeDecks x = new TapeDecks();
        Due.is("2 reel(9, 30)", x.reel(9, 30), 1);
        Due.is("2 its last sample", x.at(9, false, 29), 0);
        Due.is("2 behind it", Due.thrownByAt(x, 9, false, 30), Due.ARRAY_INDEX);
        Due.is("2 reel(0, 0)", x.reel(0, 0), 1);
        Due.is("2 no sample", Due.thrownByAt(x, 0, false, 0), Due.ARRAY_INDEX);
        Due.is("2 reel(0, 31)", x.reel(0, 31), OUTSIDE);
        Due.is("2 reel(0, MAX)", x.reel(0, MAX), OUTSIDE);
        Due.is("2 reel(0, -1)", x.reel(0, -1), SIZE);
        Due.is("2 reel(0, MIN)", x.reel(0, MIN), SIZE);
        Due.is("2 reel(10, -1)", x.reel(10, -1), UNKNOWN);
        Due.is("2 reel(-1, 31)", x.reel(-1, 31), UNKNOWN);
        Due.is("2 sizes met", x.count(6), 2);
        Due.is("2 what was refused changed nothing", x.drop(0), 1);
        x.record(9, 4, 5);
        x.reel(9, 5);
        Due.is("2 a new REEL is 0.0 again", x.at(9, false, 4), 0);
        Due.is("2 and of its size", Due.thrownByAt(x, 9, false, 5), Due.ARRAY_INDEX);
    }

    private static void promise3List() {
        TapeDecks x = new TapeDecks();
        Due.is("3 list(9, 30)", x.list(9, 30), 1);
        Due.is("3 its last cue", x.at(9, true, 29), 0);
        Due.is("3 behind it", Due.thrownByAt(x, 9, true, 30), Due.ARRAY_INDEX);
        Due.is("3 list(0, 0)", x.list(0, 0), 1);
        Due.is("3 list(0, 31)", x.list(0, 31), OUTSIDE);
        Due.is("3 list(0, -1)", x.list(0, -1), SIZE);
        Due.is("3 list(0, MIN)", x.list(0, MIN), SIZE);
        Due.is("3 list(10, 31)", x.list(10, 31), UNKNOWN);
        Due.is("3 list(-1, -1)", x.list(-1, -1), UNKNOWN);
        Due.is("3 sizes met", x.count(6), 2);
        Due.is("3 what was refused changed nothing", x.drop(0), 2);
        x.reel(9, 2);
        Due.is("3 list(9, 3) over a REEL", x.list(9, 3), 1);
        Due.is("3 it is a LIST", x.drop(9), 2);
    }

    private static void promise4Tag() {
        TapeDecks x = stocked();
        Due.is("4 tag(0, MIN)", x.tag(0, MIN), 1);
        Due.is("4 its number", x.number(0), MIN);
        Due.is("4 tag(9, -1)", x.tag(9, -1), 1);
        Due.is("4 tag(10, 1)", x.tag(10, 1), UNKNOWN);
        Due.is("4 tag(-1, 1)", x.tag(-1, 1), UNKNOWN);
        Due.is("4 drop(9)", x.drop(9), 3);
        Due.is("4 drop(0)", x.drop(0), 3);
    }

    private static void promise5Share() {
        TapeDecks x = stocked();
        Due.is("5 share(4, 0)", x.share(4, 0), 1);
        x.record(4, 1, 2500);
        Due.is("5 the same row", x.at(0, false, 1), bits(2.5f));
        x.reel(0, 1);
        Due.is("5 it stays where it was shared", x.at(4, false, 1), bits(2.5f));
        Due.is("5 share(5, 1)", x.share(5, 1), 1);
        x.cue(1, 0, 500);
        Due.is("5 the same LIST", x.at(5, true, 0), bits(0.5));
        Due.is("5 share(6, 2)", x.share(6, 2), 1);
        x.tag(2, 1);
        Due.is("5 the TAG as it was", x.number(6), 77);
        Due.is("5 share(4, 9), NOTHING", x.share(4, 9), 1);
        Due.is("5 NOTHING there", x.drop(4), 0);
        Due.is("5 share(0, 0)", x.share(0, 0), 1);
        Due.is("5 itself as it was", x.drop(0), 1);
        Due.is("5 share(10, 0)", x.share(10, 0), UNKNOWN);
        Due.is("5 share(0, 10)", x.share(0, 10), UNKNOWN);
        Due.is("5 share(-1, 0)", x.share(-1, 0), UNKNOWN);
        Due.is("5 share(1, -1)", x.share(1, -1), UNKNOWN);
        Due.is("5 the LIST as it was", x.drop(1), 2);
    }

    private static void promise6Drop() {
        TapeDecks x = stocked();
        Due.is("6 drop(0)", x.drop(0), 1);
        Due.is("6 drop(0) again", x.drop(0), 0);
        Due.is("6 drop(1)", x.drop(1), 2);
        Due.is("6 drop(2)", x.drop(2), 3);
        Due.is("6 drop(9)", x.drop(9), 0);
        Due.is("6 drop(10)", x.drop(10), UNKNOWN);
        Due.is("6 drop(-1)", x.drop(-1), UNKNOWN);
        Due.is("6 NOTHING is no FINDING here", x.count(3), 0);
        Due.is("6 no places in use", x.count(1), 0);
    }

    private static void promise7Record() {
        TapeDecks x = stocked();
        int[] given = {1, -1, 333, 1500, 16777217, 2147483600, MAX, MIN, 0};
        for (int n : given) {
            Due.is("7 record(0, 2, " + n + ")", x.record(0, 2, n), 1);
            Due.is("7 as a float, " + n, x.at(0, false, 2), bits((float) n / 1000.0f));
        }
        Due.is("7 record(10, 0, 1)", x.record(10, 0, 1), UNKNOWN);
        Due.is("7 record(-1, 0, 1)", x.record(-1, 0, 1), UNKNOWN);
        Due.is("7 record(1, 9, 1)", x.record(1, 9, 1), CAST);
        Due.is("7 record(2, 0, 1)", x.record(2, 0, 1), CAST);
        Due.is("7 record(3, -1, 1)", x.record(3, -1, 1), NOTHING);
        Due.is("7 record(0, 3, 1)", x.record(0, 3, 1), BEYOND);
        Due.is("7 record(0, MIN, 1)", x.record(0, MIN, 1), BEYOND);
        Due.is("7 CAST met", x.count(5), 2);
        Due.is("7 NOTHING met", x.count(3), 1);
        Due.is("7 BEYOND met", x.count(4), 2);
    }

    private static void promise8Cue() {
        TapeDecks x = stocked();
        int[] given = {1, -1, 333, 16777217, MAX, MIN, 0};
        for (int n : given) {
            Due.is("8 cue(1, 2, " + n + ")", x.cue(1, 2, n), 1);
            Due.is("8 as a double, " + n, x.at(1, true, 2), bits(n / 1000.0));
        }
        Due.is("8 cue(10, 0, 1)", x.cue(10, 0, 1), UNKNOWN);
        Due.is("8 cue(-1, 0, 1)", x.cue(-1, 0, 1), UNKNOWN);
        Due.is("8 cue(0, 9, 1)", x.cue(0, 9, 1), CAST);
        Due.is("8 cue(2, 0, 1)", x.cue(2, 0, 1), CAST);
        Due.is("8 cue(3, 0, 1)", x.cue(3, 0, 1), NOTHING);
        Due.is("8 cue(1, 3, 1)", x.cue(1, 3, 1), BEYOND);
        Due.is("8 cue(1, -1, 1)", x.cue(1, -1, 1), BEYOND);
        Due.is("8 CAST met", x.count(5), 2);
    }

    private static void promise9At() {
        TapeDecks x = stocked();
        x.record(0, 0, -2500);
        x.cue(1, 0, -2500);
        Due.is("9 at(0, false, 0)", x.at(0, false, 0), bits(-2.5f));
        Due.is("9 at(1, true, 0)", x.at(1, true, 0), bits(-2.5));
        Due.is("9 at(10, false, 0)", x.at(10, false, 0), 0);
        Due.is("9 at(-1, true, 0)", x.at(-1, true, 0), 0);
        Due.is("9 a REEL taken for a LIST", Due.thrownByAt(x, 0, true, 9), Due.CLASS_CAST);
        Due.is("9 a LIST taken for a REEL", Due.thrownByAt(x, 1, false, 0), Due.CLASS_CAST);
        Due.is("9 a TAG taken for a REEL", Due.thrownByAt(x, 2, false, 0), Due.CLASS_CAST);
        Due.is("9 a TAG taken for a LIST", Due.thrownByAt(x, 2, true, 0), Due.CLASS_CAST);
        Due.is("9 NOTHING", Due.thrownByAt(x, 3, false, -1), Due.NULL_POINTER);
        Due.is("9 NOTHING, wide", Due.thrownByAt(x, 3, true, 0), Due.NULL_POINTER);
        Due.is("9 BEYOND", Due.thrownByAt(x, 0, false, 3), Due.ARRAY_INDEX);
        Due.is("9 BEYOND below", Due.thrownByAt(x, 1, true, -1), Due.ARRAY_INDEX);
        for (int what = 3; what <= 8; what++) {
            Due.is("9 at() counts none", x.count(what), 0);
        }
        makeEndless(x, 0, 1, false);
        makeEndless(x, 1, 1, true);
        Due.is("9 an endless float", x.at(0, false, 1), bits(Float.POSITIVE_INFINITY));
        Due.is("9 an endless double", x.at(1, true, 1), bits(Double.POSITIVE_INFINITY));
    }

    private static void promise9AtSmallNumbers() {
        TapeDecks x = stocked();
        float sample = 1 / 1000.0f;
        double cue = 1 / 1000.0;
        x.record(0, 0, 1);
        x.cue(1, 0, 1);
        for (int k = 0; k < 8; k++) {
            Due.is("9 a float squared " + k, x.at(0, false, 0), bits(sample));
            Due.is("9 a double squared " + k, x.at(1, true, 0), bits(cue));
            x.loud(0, false, 0);
            x.loud(1, true, 0);
            sample *= sample;
            cue *= cue;
        }
    }

    private static void promise10Left() {
        TapeDecks x = stocked();
        x.record(0, 0, -7001);
        x.record(0, 1, 2500);
        Due.is("10 left(0, false, 0, 1)", x.left(0, false, 0, 1), 1);
        Due.is("10 the sign of x", x.at(0, false, 0), bits((-7001 / 1000.0f) % 2.5f));
        x.cue(1, 0, 7001);
        x.cue(1, 1, -2500);
        Due.is("10 left(1, true, 0, 1)", x.left(1, true, 0, 1), 1);
        Due.is("10 in doubles", x.at(1, true, 0), bits(7.001 % -2.5));
        Due.is("10 by itself", x.left(1, true, 1, 1), 1);
        Due.is("10 -0.0", x.at(1, true, 1), bits(-0.0));
        Due.is("10 by -0.0", x.left(1, true, 0, 1), ZERO);
        Due.is("10 by 0.0", x.left(1, true, 0, 2), ZERO);
        Due.is("10 it is as it was", x.at(1, true, 0), bits(7.001 % -2.5));
        x.cue(1, 0, 1);
        Due.is("10 -0.0 by more", x.left(1, true, 1, 0), 1);
        Due.is("10 -0.0 stays", x.at(1, true, 1), bits(-0.0));
        makeEndless(x, 0, 2, false);
        Due.is("10 by an endless one", x.left(0, false, 1, 2), 1);
        Due.is("10 it stays", x.at(0, false, 1), bits(2.5f));
        Due.is("10 of an endless one", x.left(0, false, 2, 1), ZERO);
        Due.is("10 of an endless one by itself", x.left(0, false, 2, 2), ZERO);
        Due.is("10 ZERO met", x.count(8), 4);
        Due.is("10 left(10, false, 0, 0)", x.left(10, false, 0, 0), UNKNOWN);
        Due.is("10 left(-1, true, 0, 0)", x.left(-1, true, 0, 0), UNKNOWN);
        Due.is("10 left(0, true, 9, 9)", x.left(0, true, 9, 9), CAST);
        Due.is("10 left(1, false, 0, 0)", x.left(1, false, 0, 0), CAST);
        Due.is("10 left(2, false, 0, 0)", x.left(2, false, 0, 0), CAST);
        Due.is("10 left(3, false, 9, 9)", x.left(3, false, 9, 9), NOTHING);
        Due.is("10 left(0, false, 3, 0)", x.left(0, false, 3, 0), BEYOND);
        Due.is("10 left(0, false, 0, 3)", x.left(0, false, 0, 3), BEYOND);
        Due.is("10 left(0, false, -1, -1)", x.left(0, false, -1, -1), BEYOND);
        Due.is("10 NOTHING met", x.count(3), 1);
        Due.is("10 BEYOND met", x.count(4), 3);
        Due.is("10 CAST met", x.count(5), 3);
        x.reel(4, 2);
        makeEndless(x, 4, 0, false);
        Due.is("10 BEYOND ahead of ZERO", x.left(4, false, 0, 2), BEYOND);
    }

    private static void promise11Loud() {
        TapeDecks x = stocked();
        x.record(0, 0, -1999);
        x.cue(1, 2, -1999);
        Due.is("11 loud(0, false, 0)", x.loud(0, false, 0), 1);
        Due.is("11 in floats", x.at(0, false, 0), bits((-1999 / 1000.0f) * (-1999 / 1000.0f)));
        Due.is("11 loud(1, true, 2)", x.loud(1, true, 2), 1);
        Due.is("11 in doubles", x.at(1, true, 2), bits(-1.999 * -1.999));
        makeEndless(x, 0, 0, false);
        Due.is("11 an endless one", x.loud(0, false, 0), 1);
        Due.is("11 stays endless", x.at(0, false, 0), bits(Float.POSITIVE_INFINITY));
        Due.is("11 loud(10, false, 0)", x.loud(10, false, 0), UNKNOWN);
        Due.is("11 loud(-1, false, 0)", x.loud(-1, false, 0), UNKNOWN);
        Due.is("11 loud(0, true, 9)", x.loud(0, true, 9), CAST);
        Due.is("11 loud(1, false, 0)", x.loud(1, false, 0), CAST);
        Due.is("11 loud(3, true, 9)", x.loud(3, true, 9), NOTHING);
        Due.is("11 loud(0, false, 3)", x.loud(0, false, 3), BEYOND);
        Due.is("11 loud(1, true, -1)", x.loud(1, true, -1), BEYOND);
        Due.is("11 FINDINGS met", x.count(3) + x.count(4) + x.count(5), 5);
    }

    private static void promise12Number() {
        TapeDecks x = stocked();
        Due.is("12 number(2)", x.number(2), 77);
        Due.is("12 number(10)", x.number(10), -2000000001);
        Due.is("12 number(-1)", x.number(-1), -2000000001);
        Due.is("12 number(0)", x.number(0), -2000000033);
        Due.is("12 number(1)", x.number(1), -2000000033);
        Due.is("12 number(3)", x.number(3), -2000000031);
        Due.is("12 CAST met", x.count(5), 2);
        Due.is("12 NOTHING met", x.count(3), 1);
    }

    private static void promise13Deck() {
        TapeDecks x = new TapeDecks();
        Due.is("13 deck(10, 1, 0)", x.deck(10, 1, 0), UNKNOWN);
        Due.is("13 deck(-1, 1, 1)", x.deck(-1, 1, 1), UNKNOWN);
        Due.is("13 deck(0, 1, 0)", x.deck(0, 1, 0), OUTSIDE);
        Due.is("13 deck(0, 1, MIN)", x.deck(0, 1, MIN), OUTSIDE);
        for (int deck = 0; deck <= 7; deck++) {
            Due.is("13 DECK " + deck, x.deck(9, -333 * deck, 1 + deck), deck);
            Due.is("13 HEAD", x.told(deck, 0), 0);
            Due.is("13 SPEED", x.told(deck, 1), bits((float) (-333 * deck) / 1000.0f));
            Due.is("13 LOOP", x.told(deck, 2), bits((float) (1 + deck) / 1000.0f));
            Due.is("13 LEVEL", x.told(deck, 3), 0);
        }
        Due.is("13 a ninth", x.deck(0, 1, 1), FULL);
        Due.is("13 OUTSIDE ahead of FULL", x.deck(0, 1, 0), OUTSIDE);
        Due.is("13 UNKNOWN ahead of FULL", x.deck(10, 1, 1), UNKNOWN);
        Due.is("13 eight DECKS", x.count(0), 8);
    }

    private static void promise14Speed() {
        TapeDecks x = stocked();
        Due.is("14 speed(0, 1), no DECK", x.speed(0, 1), UNKNOWN);
        x.deck(0, 1, 1);
        Due.is("14 speed(0, MIN)", x.speed(0, MIN), 1);
        Due.is("14 SPEED", x.told(0, 1), bits(MIN / 1000.0f));
        Due.is("14 speed(1, 1)", x.speed(1, 1), UNKNOWN);
        Due.is("14 speed(-1, 1)", x.speed(-1, 1), UNKNOWN);
        Due.is("14 speed(8, 1)", x.speed(8, 1), UNKNOWN);
    }

    private static void promise15Play() {
        TapeDecks x = stocked();
        x.record(0, 0, 1500);
        x.record(0, 1, -5000000);
        x.deck(0, 750, 2500);
        Due.is("15 play(0, 0)", x.play(0, 0), 0);
        Due.is("15 play(0, 1)", x.play(0, 1), 1);
        Due.is("15 LEVEL", x.told(0, 3), bits(1.5));
        Due.is("15 HEAD", x.told(0, 0), bits(0.75f));
        Due.is("15 play(0, 2)", x.play(0, 2), 2);
        Due.is("15 LEVEL by 4096.0", x.told(0, 3), bits((3.0 - 5000.0) % 4096.0));
        Due.is("15 HEAD", x.told(0, 0), bits(2.25f));
        Due.is("15 play(0, 1)", x.play(0, 1), 1);
        Due.is("15 HEAD by LOOP", x.told(0, 0), bits(0.5f));
        Due.is("15 play(0, 100)", x.play(0, 100), 100);
        x.speed(0, -1000);
        Due.is("15 back: -0.5 as an int is 0, -1.5 is BEYOND", x.play(0, 100), 2);
        Due.is("15 BEYOND", x.finding(), BEYOND);
        Due.is("15 HEAD below the beginning", x.told(0, 0), bits(-1.5f));
        Due.is("15 play(0, 101)", x.play(0, 101), OUTSIDE);
        Due.is("15 play(0, -1)", x.play(0, -1), OUTSIDE);
        Due.is("15 play(1, 101)", x.play(1, 101), UNKNOWN);
        Due.is("15 play(-1, 1)", x.play(-1, 1), UNKNOWN);
    }

    private static void promise15PlayFindings() {
        TapeDecks x = stocked();
        x.deck(3, 1000, 4000);
        Due.is("15 NOTHING", x.play(0, 5), 0);
        Due.is("15 by NOTHING", x.finding(), NOTHING);
        x.share(3, 1);
        Due.is("15 a LIST", x.play(0, 5), 0);
        Due.is("15 by CAST", x.finding(), CAST);
        x.share(3, 2);
        Due.is("15 a TAG", x.play(0, 5), 0);
        Due.is("15 by CAST too", x.finding(), CAST);
        x.share(3, 0);
        x.record(0, 0, 250);
        makeEndless(x, 0, 1, false);
        Due.is("15 an endless sample", x.play(0, 5), 1);
        Due.is("15 by ZERO", x.finding(), ZERO);
        Due.is("15 LEVEL of the TICK that was", x.told(0, 3), bits(0.25));
        Due.is("15 HEAD stays at the TICK that was not", x.told(0, 0), bits(1.0f));
        x.record(0, 1, 0);
        Due.is("15 BEYOND the end", x.play(0, 5), 2);
        Due.is("15 by BEYOND", x.finding(), BEYOND);
        Due.is("15 HEAD where it stopped", x.told(0, 0), bits(3.0f));
        Due.is("15 NOTHING met", x.count(3), 1);
        Due.is("15 BEYOND met", x.count(4), 1);
        Due.is("15 CAST met", x.count(5), 2);
        Due.is("15 ZERO met", x.count(8), 1);
        x.reel(3, 0);
        x.deck(3, 0, 1);
        Due.is("15 an empty REEL", x.play(1, 1), 0);
        Due.is("15 by BEYOND there", x.finding(), BEYOND);
    }

    private static void promise16Finding() {
        TapeDecks x = stocked();
        Due.is("16 ahead of a play", x.finding(), 0);
        x.deck(3, 0, 1000);
        x.deck(0, 0, 1000);
        x.play(0, 1);
        Due.is("16 by NOTHING", x.finding(), NOTHING);
        x.play(1, 101);
        x.play(9, 1);
        x.record(1, 0, 0);
        Due.is("16 refused plays and other calls leave it", x.finding(), NOTHING);
        x.play(1, 1);
        Due.is("16 0 again", x.finding(), 0);
        x.play(0, 1);
        x.play(0, 0);
        Due.is("16 no TICKS meet none", x.finding(), 0);
    }

    private static void promise17Seek() {
        TapeDecks x = stocked();
        x.deck(0, 0, 2500);
        x.cue(1, 0, 7001);
        Due.is("17 seek(0, 1, 0)", x.seek(0, 1, 0), 1);
        Due.is("17 HEAD", x.told(0, 0), bits((float) 7.001 % 2.5f));
        x.cue(1, 0, -2500);
        Due.is("17 seek(0, 1, 0), below", x.seek(0, 1, 0), 1);
        Due.is("17 HEAD -0.0", x.told(0, 0), bits(-0.0f));
        makeEndless(x, 1, 1, true);
        Due.is("17 an endless cue", x.seek(0, 1, 1), ZERO);
        x.cue(1, 2, MAX);
        for (int k = 0; k < 3; k++) {
            x.loud(1, true, 2);
        }
        Due.is("17 endless as a float alone", x.seek(0, 1, 2), ZERO);
        Due.is("17 HEAD as it was", x.told(0, 0), bits(-0.0f));
        Due.is("17 ZERO met", x.count(8), 2);
        Due.is("17 seek(1, 1, 0)", x.seek(1, 1, 0), UNKNOWN);
        Due.is("17 seek(-1, 1, 0)", x.seek(-1, 1, 0), UNKNOWN);
        Due.is("17 seek(0, 10, 0)", x.seek(0, 10, 0), UNKNOWN);
        Due.is("17 seek(0, -1, 0)", x.seek(0, -1, 0), UNKNOWN);
        Due.is("17 seek(0, 0, 9)", x.seek(0, 0, 9), CAST);
        Due.is("17 seek(0, 2, 0)", x.seek(0, 2, 0), CAST);
        Due.is("17 seek(0, 3, 0)", x.seek(0, 3, 0), NOTHING);
        Due.is("17 seek(0, 1, 3)", x.seek(0, 1, 3), BEYOND);
        Due.is("17 seek(0, 1, -1)", x.seek(0, 1, -1), BEYOND);
        Due.is("17 NOTHING met", x.count(3), 1);
        Due.is("17 BEYOND met", x.count(4), 2);
        Due.is("17 CAST met", x.count(5), 2);
    }

    private static void promise18Mark() {
        TapeDecks x = stocked();
        x.deck(0, 333, 2500);
        x.play(0, 1);
        Due.is("18 mark(0, 1, 2)", x.mark(0, 1, 2), 1);
        Due.is("18 HEAD as a double", x.at(1, true, 2), bits((double) (333 / 1000.0f)));
        Due.is("18 mark(1, 1, 0)", x.mark(1, 1, 0), UNKNOWN);
        Due.is("18 mark(-1, 1, 0)", x.mark(-1, 1, 0), UNKNOWN);
        Due.is("18 mark(0, 10, 0)", x.mark(0, 10, 0), UNKNOWN);
        Due.is("18 mark(0, -1, 0)", x.mark(0, -1, 0), UNKNOWN);
        Due.is("18 mark(0, 0, 9)", x.mark(0, 0, 9), CAST);
        Due.is("18 mark(0, 2, 0)", x.mark(0, 2, 0), CAST);
        Due.is("18 mark(0, 3, 0)", x.mark(0, 3, 0), NOTHING);
        Due.is("18 mark(0, 1, 3)", x.mark(0, 1, 3), BEYOND);
        Due.is("18 mark(0, 1, -1)", x.mark(0, 1, -1), BEYOND);
        Due.is("18 BEYOND met", x.count(4), 2);
    }

    private static void promise19Frames() {
        TapeDecks x = stocked();
        x.deck(0, 1500, 4000);
        Due.is("19 frames(0, 140) of 0.0", x.frames(0, 140), 0);
        x.play(0, 1);
        Due.is("19 frames(0, 0)", x.frames(0, 0), 1);
        Due.is("19 frames(0, 1)", x.frames(0, 1), 3);
        Due.is("19 frames(0, 62)", x.frames(0, 62), 3L << 61);
        Due.is("19 frames(0, 63), up to the end", x.frames(0, 63), Long.MAX_VALUE);
        Due.is("19 frames(0, 140), endless", x.frames(0, 140), Long.MAX_VALUE);
        Due.is("19 HEAD as it was", x.told(0, 0), bits(1.5f));
        x.speed(0, -3000);
        x.play(0, 1);
        Due.is("19 frames(0, 63), below", x.frames(0, 63), Long.MIN_VALUE);
        Due.is("19 frames(0, 140), below", x.frames(0, 140), Long.MIN_VALUE);
        Due.is("19 frames(0, 0), cut", x.frames(0, 0), -1);
        Due.is("19 frames(0, 141)", x.frames(0, 141), Due.FAR - 2);
        Due.is("19 frames(0, -1)", x.frames(0, -1), Due.FAR - 2);
        Due.is("19 frames(1, 141)", x.frames(1, 141), Due.FAR - 1);
        Due.is("19 frames(-1, 0)", x.frames(-1, 0), Due.FAR - 1);
    }

    private static void promise20Cut() {
        TapeDecks x = stocked();
        x.list(4, 1);
        long[] stamped = {0, -1, 127, 128, -129, 32768, -32769, 2147483648L, 3000000000L, -3000000000L, Long.MIN_VALUE};
        for (long v : stamped) {
            x.stamp(0, 4, 0, v);
            float f = (float) v;
            Due.is("20 a long of " + v, x.cut(0, 0, 0), (long) f);
            Due.is("20 a long, as a double, of " + v, x.cut(0, 0, 1), (long) (double) f);
            Due.is("20 an int of " + v, x.cut(0, 0, 2), (int) f);
            Due.is("20 a short of " + v, x.cut(0, 0, 3), (short) f);
            Due.is("20 a byte of " + v, x.cut(0, 0, 4), (byte) f);
        }
        x.record(0, 1, -70999);
        Due.is("20 cut(0, 1, 0)", x.cut(0, 1, 0), -70);
        Due.is("20 cut(0, 0, -1)", x.cut(0, 0, -1), Due.FAR - 2);
        Due.is("20 cut(1, 0, 5)", x.cut(1, 0, 5), Due.FAR - 2);
        Due.is("20 cut(10, 0, 5)", x.cut(10, 0, 5), Due.FAR - 1);
        Due.is("20 cut(-1, 0, 0)", x.cut(-1, 0, 0), Due.FAR - 1);
        Due.is("20 cut(1, 9, 0)", x.cut(1, 9, 0), Due.FAR - 33);
        Due.is("20 cut(2, 0, 0)", x.cut(2, 0, 0), Due.FAR - 33);
        Due.is("20 cut(3, 9, 0)", x.cut(3, 9, 0), Due.FAR - 31);
        Due.is("20 cut(0, 3, 4)", x.cut(0, 3, 4), Due.FAR - 32);
        Due.is("20 cut(0, -1, 4)", x.cut(0, -1, 4), Due.FAR - 32);
        Due.is("20 FINDINGS met", x.count(3) + x.count(4) + x.count(5), 5);
    }

    private static void promise21Stamp() {
        TapeDecks x = stocked();
        Due.is("21 what both tell", x.stamp(0, 1, 2, -16777216), 1);
        Due.is("21 the sample", x.at(0, false, 2), bits(-16777216f));
        Due.is("21 the cue", x.at(1, true, 2), bits(-16777216.0));
        Due.is("21 what the cue alone tells", x.stamp(0, 1, 2, 16777217), 0);
        Due.is("21 the nearest float", x.at(0, false, 2), bits((float) 16777217L));
        Due.is("21 the cue", x.at(1, true, 2), bits(16777217.0));
        long twiceRounded = (1L << 60) + (1L << 36) + 1;
        Due.is("21 rounded once", x.stamp(0, 1, 2, twiceRounded), 0);
        Due.is("21 the nearest float of the long itself", x.at(0, false, 2), bits((float) twiceRounded));
        Due.is("21 the greatest", x.stamp(0, 1, 2, Long.MAX_VALUE), 1);
        Due.is("21 the one below", x.stamp(0, 1, 2, Long.MAX_VALUE - 1), 0);
        Due.is("21 the least", x.stamp(0, 1, 2, Long.MIN_VALUE), 1);
    }

    private static void promise21StampFindings() {
        TapeDecks x = stocked();
        x.list(4, 1);
        x.reel(5, 1);
        Due.is("21 stamp(10, 1, 0, 5)", x.stamp(10, 1, 0, 5), UNKNOWN);
        Due.is("21 stamp(0, 10, 0, 5)", x.stamp(0, 10, 0, 5), UNKNOWN);
        Due.is("21 stamp(-1, 1, 0, 5)", x.stamp(-1, 1, 0, 5), UNKNOWN);
        Due.is("21 stamp(0, -1, 0, 5)", x.stamp(0, -1, 0, 5), UNKNOWN);
        Due.is("21 the REEL is none", x.stamp(1, 9, 9, 5), CAST);
        Due.is("21 the REEL is NOTHING", x.stamp(3, 1, 0, 5), NOTHING);
        Due.is("21 BEYOND of the REEL", x.stamp(5, 1, 1, 5), BEYOND);
        Due.is("21 BEYOND of the REEL, then NOTHING", x.stamp(0, 3, 3, 5), BEYOND);
        Due.is("21 the LIST is none", x.stamp(0, 2, 0, 5), CAST);
        Due.is("21 the same place", x.stamp(0, 0, 0, 5), CAST);
        Due.is("21 the LIST is NOTHING", x.stamp(0, 3, 0, 5), NOTHING);
        Due.is("21 both are NOTHING", x.stamp(3, 3, 0, 5), NOTHING);
        Due.is("21 BEYOND of the LIST", x.stamp(0, 4, 1, 5), BEYOND);
        Due.is("21 below", x.stamp(0, 1, -1, 5), BEYOND);
        Due.is("21 NOTHING met", x.count(3), 3);
        Due.is("21 BEYOND met", x.count(4), 4);
        Due.is("21 CAST met", x.count(5), 3);
        for (int i = 0; i < 3; i++) {
            Due.is("21 no sample is changed", x.at(0, false, i), 0);
            Due.is("21 no cue is changed", x.at(1, true, i), 0);
        }
    }

    private static void promise22Told() {
        TapeDecks x = stocked();
        Due.is("22 told(0, 2), no DECK", x.told(0, 2), 0);
        x.deck(0, -1250, 3000);
        x.record(0, 0, -500);
        x.play(0, 1);
        Due.is("22 HEAD", x.told(0, 0), bits(-1.25f));
        Due.is("22 SPEED", x.told(0, 1), bits(-1.25f));
        Due.is("22 LOOP", x.told(0, 2), bits(3.0f));
        Due.is("22 LEVEL", x.told(0, 3), bits(-0.5));
        Due.is("22 told(0, 4)", x.told(0, 4), 0);
        Due.is("22 told(0, -1)", x.told(0, -1), 0);
        Due.is("22 told(1, 2)", x.told(1, 2), 0);
        Due.is("22 told(-1, 2)", x.told(-1, 2), 0);
    }

    private static void promise23Ears() {
        TapeDecks x = stocked();
        x.deck(0, 0, 1);
        Due.is("23 ears(false, 5)", x.ears(false, 5), 1);
        Due.is("23 the last place", x.ear(4, 0, 0), 1);
        Due.is("23 behind it", x.ear(5, 0, 0), BEYOND);
        Due.is("23 ears(true, 6)", x.ears(true, 6), OUTSIDE);
        Due.is("23 ears(true, -1)", x.ears(true, -1), SIZE);
        Due.is("23 ears(true, MIN)", x.ears(true, MIN), SIZE);
        Due.is("23 what was refused changed nothing", x.ear(3, 0, 0), 1);
        Due.is("23 two EARS", x.count(2), 2);
        Due.is("23 ears(true, 2)", x.ears(true, 2), 1);
        Due.is("23 they are empty", x.count(2), 0);
        Due.is("23 SHARP ones alone", x.ear(0, 0, 0), STORE);
        Due.is("23 a SHARP one", x.ear(0, 1, 0), 1);
        Due.is("23 ears(false, 0)", x.ears(false, 0), 1);
        Due.is("23 no places", x.hear(0), Due.FAR - 32);
        Due.is("23 SIZE met", x.count(6), 2);
    }

    private static void promise24Ear() {
        TapeDecks x = stocked();
        Due.is("24 no DECK", x.ear(0, 2, 0), UNKNOWN);
        x.deck(0, 0, 1);
        Due.is("24 no such sort", x.ear(0, 2, 0), OUTSIDE);
        Due.is("24 below", x.ear(0, -1, 0), OUTSIDE);
        Due.is("24 no EARS", x.ear(-1, 0, 0), NOTHING);
        x.ears(true, 2);
        Due.is("24 BEYOND ahead of STORE", x.ear(2, 0, 0), BEYOND);
        Due.is("24 BEYOND below", x.ear(-1, 1, 0), BEYOND);
        Due.is("24 STORE", x.ear(1, 0, 0), STORE);
        Due.is("24 it is not there", x.count(2), 0);
        Due.is("24 ear(1, 1, 0)", x.ear(1, 1, 0), 1);
        Due.is("24 again at its place", x.ear(1, 1, 0), 1);
        Due.is("24 STORE leaves what is there", x.ear(1, 0, 0), STORE);
        Due.is("24 one EAR", x.count(2), 1);
        Due.is("24 ear(0, 1, 1)", x.ear(0, 1, 1), UNKNOWN);
        Due.is("24 ear(0, 1, -1)", x.ear(0, 1, -1), UNKNOWN);
        Due.is("24 STORE met", x.count(7), 2);
        Due.is("24 NOTHING met", x.count(3), 1);
        Due.is("24 BEYOND met", x.count(4), 2);
    }

    private static void promise25Hear() {
        TapeDecks x = stocked();
        Due.is("25 no EARS", x.hear(-1), Due.FAR - 31);
        x.deck(0, 0, 1);
        x.deck(4, 0, 1);
        x.reel(4, 1);
        x.record(0, 0, 7996);
        x.record(4, 0, -7996);
        x.ears(false, 5);
        x.ear(0, 0, 0);
        x.ear(1, 1, 0);
        x.ear(2, 0, 1);
        x.ear(3, 1, 1);
        Due.is("25 ahead of a play", x.hear(1), 0);
        x.play(0, 1);
        x.play(1, 1);
        Due.is("25 a DULL one", x.hear(0), 3);
        Due.is("25 a SHARP one", x.hear(1), 7000);
        Due.is("25 a DULL one, below", x.hear(2), -3);
        Due.is("25 a SHARP one, below", x.hear(3), -7000);
        Due.is("25 an empty place", x.hear(4), Due.FAR - 31);
        Due.is("25 BEYOND", x.hear(5), Due.FAR - 32);
        Due.is("25 below", x.hear(-1), Due.FAR - 32);
        Due.is("25 NOTHING met", x.count(3), 2);
        Due.is("25 BEYOND met", x.count(4), 2);
    }

    private static void promise26Count() {
        TapeDecks x = stocked();
        x.deck(0, 0, 1);
        x.deck(0, 0, 1);
        x.ears(true, 3);
        x.ear(2, 1, 1);
        x.record(9, 0, 0);
        x.record(0, 9, 0);
        x.record(0, 9, 0);
        x.record(1, 0, 0);
        x.reel(0, -1);
        x.ear(0, 0, 0);
        x.left(0, false, 0, 0);
        x.left(0, false, 0, 0);
        x.left(0, false, 0, 0);
        int[] due = {2, 3, 1, 1, 2, 1, 1, 1, 3};
        for (int what = 0; what <= 8; what++) {
            Due.is("26 count(" + what + ")", x.count(what), due[what]);
        }
        Due.is("26 count(9)", x.count(9), OUTSIDE);
        Due.is("26 count(-1)", x.count(-1), OUTSIDE);
        Due.is("26 count(MIN)", x.count(MIN), OUTSIDE);
        Due.is("26 count(MAX)", x.count(MAX), OUTSIDE);
        x.ear(0, 1, 0);
        Due.is("26 two EARS", x.count(2), 2);
        x.share(8, 0);
        Due.is("26 a shared row counts at each place", x.count(1), 4);
    }

    private static void promise27Clear() {
        TapeDecks x = stocked();
        x.deck(3, 0, 1);
        x.deck(0, 0, 1);
        x.play(0, 1);
        x.ears(true, 2);
        x.ear(0, 1, 0);
        x.ear(0, 0, 0);
        Due.is("27 clear()", x.clear(), 2);
        for (int what = 0; what <= 8; what++) {
            Due.is("27 count(" + what + ")", x.count(what), 0);
        }
        Due.is("27 finding()", x.finding(), 0);
        Due.is("27 told(0, 2)", x.told(0, 2), 0);
        Due.is("27 hear(0)", x.hear(0), Due.FAR - 31);
        Due.is("27 clear() again", x.clear(), 0);
        Due.is("27 DECKS from 0 again", x.deck(3, 1, 1), 0);
        Due.is("27 NOTHING there", x.play(0, 1), 0);
        Due.is("27 as it was told", x.finding(), NOTHING);
        Due.is("27 NOTHING once", x.count(3), 1);
        for (int deck = 1; deck <= 7; deck++) {
            x.deck(0, 0, 1);
        }
        Due.is("27 eight", x.clear(), 8);
    }

    public static void main(String[] args) {
        promise1NewObject();
        promise2Reel();
        promise3List();
        promise4Tag();
        promise5Share();
        promise6Drop();
        promise7Record();
        promise8Cue();
        promise9At();
        promise9AtSmallNumbers();
        promise10Left();
        promise11Loud();
        promise12Number();
        promise13Deck();
        promise14Speed();
        promise15Play();
        promise15PlayFindings();
        promise16Finding();
        promise17Seek();
        promise18Mark();
        promise19Frames();
        promise20Cut();
        promise21Stamp();
        promise21StampFindings();
        promise22Told();
        promise23Ears();
        promise24Ear();
        promise25Hear();
        promise26Count();
        promise27Clear();
        Due.end();
    }
}
