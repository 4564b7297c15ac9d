/** Objects in a state where something of each kind is there: each time made anew, and always alike. */
final class Worlds {
    static final int MIN = Integer.MIN_VALUE, MAX = Integer.MAX_VALUE;

    /** Places of full(). */
    static final int REEL = 0, LIST = 1, TAG = 2, NONE = 3, NO_SAMPLES = 4, NO_CUES = 5, LOUD_REEL = 6, LOUD_LIST = 7,
            SHARED_REEL = 8, STOPPING_REEL = 9;

    private Worlds() {
    }

    static void louder(TapeDecks x, int place, boolean wide, int i, int often) {
        for (int k = 0; k < often; k++) {
            x.loud(place, wide, i);
        }
    }

    /** Sample i of a REEL becomes endless. */
    static void endlessSample(TapeDecks x, int place, int i) {
        x.record(place, i, MAX);
        louder(x, place, false, i, 3);
    }

    /** Cue i of a LIST becomes endless. */
    static void endlessCue(TapeDecks x, int place, int i) {
        x.cue(place, i, MAX);
        louder(x, place, true, i, 6);
    }

    private static void stock(TapeDecks x) {
        x.reel(REEL, 3);
        x.record(REEL, 0, 6500);
        x.record(REEL, 1, -250);
        x.record(REEL, 2, 7999);
        x.list(LIST, 3);
        x.cue(LIST, 0, 7001);
        x.cue(LIST, 1, -2500);
        x.tag(TAG, 77);
        x.reel(NO_SAMPLES, 0);
        x.list(NO_CUES, 0);
        x.reel(LOUD_REEL, 3);
        endlessSample(x, LOUD_REEL, 0);
        x.record(LOUD_REEL, 1, 2000);
        x.list(LOUD_LIST, 4);
        endlessCue(x, LOUD_LIST, 0);
        x.cue(LOUD_LIST, 1, 2000);
        // Endless as a float alone.
        x.cue(LOUD_LIST, 3, MAX);
        louder(x, LOUD_LIST, true, 3, 3);
        x.share(SHARED_REEL, REEL);
        x.reel(STOPPING_REEL, 2);
        x.record(STOPPING_REEL, 0, 3999);
        endlessSample(x, STOPPING_REEL, 1);
    }

    /** Eight DECKS, on what each can meet, and three places for SHARP EARS alone, the middle one empty. */
    static TapeDecks full() {
        TapeDecks x = new TapeDecks();
        stock(x);
        x.deck(REEL, 1000, 2500);
        x.deck(NONE, 1000, 2500);
        x.deck(LIST, 1000, 2500);
        x.deck(TAG, 1000, 2500);
        x.deck(NO_SAMPLES, 1000, 2500);
        x.deck(LOUD_REEL, 1000, 2500);
        x.deck(SHARED_REEL, 1000, 100000);
        x.deck(STOPPING_REEL, 1000, 100000);
        x.play(2, 1);
        x.play(0, 1);
        x.ears(true, 3);
        x.ear(0, 1, 0);
        x.ear(2, 1, 1);
        return x;
    }

    /** As full(), but with two DECKS alone, a play that stopped, and five places for any EARS. */
    static TapeDecks open() {
        TapeDecks x = new TapeDecks();
        stock(x);
        x.deck(REEL, 1000, 2500);
        x.deck(NONE, 1000, 2500);
        x.play(0, 1);
        x.play(1, 1);
        x.ears(false, 5);
        x.ear(0, 0, 0);
        x.ear(1, 1, 0);
        x.ear(4, 0, 1);
        return x;
    }

    /** As full(), but without EARS. */
    static TapeDecks earless() {
        TapeDecks x = new TapeDecks();
        stock(x);
        x.deck(REEL, 1000, 2500);
        x.play(0, 1);
        return x;
    }

    /** As earless(), with EARS for SHARP ones alone that have no places. */
    static TapeDecks placeless() {
        TapeDecks x = earless();
        x.ears(true, 0);
        return x;
    }
}
