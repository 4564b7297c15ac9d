/**
 * Tape decks that loop over reels of samples, a shelf of ten places, and ears that hear the level.
 * What each call promises stands in ../shared/DOC.md; words in capitals here are its terms.
 */
public final class TapeDecks {
    public static final int UNKNOWN = -1, OUTSIDE = -2, FULL = -4;

    private static final int PLACES = 10, LONGEST = 30, MOST_DECKS = 8, MOST_EARS = 5;
    private static final int MOST_TICKS = 100, MOST_DOUBLINGS = 140;

    private static final int NOTHING = 1, BEYOND = 2, CAST = 3, SIZE = 4, STORE = 5, ZERO = 6;
    private static final int NO_FINDING = 0, FINDINGS = 6, FINDINGS_FROM = -30;
    /** What count() tells by 0 .. 2 stands ahead of FINDING 1, which it tells by 3. */
    private static final int COUNTED_AHEAD_OF_FINDINGS = 2;

    /** Answers that could be a number of a TAG, or a long of a sample, are told from here downwards. */
    private static final int NUMBERS_FROM = -2_000_000_000;
    private static final long LONGS_FROM = -5_000_000_000_000_000_000L;

    private static final int REEL = 1, LIST = 2, TAG = 3;
    private static final int DULL = 0, SHARP = 1;

    private static final int FLOAT_WIDTH = 23, FLOAT_BIAS = 127;
    private static final int DOUBLE_WIDTH = 52, DOUBLE_BIAS = 1023;
    /** More than the doublings from the least double above 0.0 to the greatest (2097). */
    private static final int ENOUGH_DOUBLINGS = 2200;

    /** What a place of THE SHELF holds; a place that is null holds NOTHING. */
    private abstract static class Thing {
        abstract int kind();
    }

    /** A REEL or a LIST. Every float is told exactly by a double, so both are read and set in doubles. */
    private abstract static class Row extends Thing {
        abstract int length();

        abstract double valueAt(int i);

        abstract void put(int i, double value);

        abstract long bitsAt(int i);

        final boolean has(int i) {
            return i >= 0 && i < length();
        }
    }

    private static final class Reel extends Row {
        private final float[] samples;

        Reel(int n) {
            samples = new float[n < 0 ? 0 : n];
        }

        int kind() {
            return REEL;
        }

        int length() {
            return samples.length;
        }

        double valueAt(int i) {
            return has(i) ? samples[i] : 0.0;
        }

        void put(int i, double value) {
            if (has(i)) {
                samples[i] = (float) value;
            }
        }

        long bitsAt(int i) {
            return floatBits((float) valueAt(i));
        }
    }

    private static final class Cues extends Row {
        private final double[] cues;

        Cues(int n) {
            cues = new double[n < 0 ? 0 : n];
        }

        int kind() {
            return LIST;
        }

        int length() {
            return cues.length;
        }

        double valueAt(int i) {
            return has(i) ? cues[i] : 0.0;
        }

        void put(int i, double value) {
            if (has(i)) {
                cues[i] = value;
            }
        }

        long bitsAt(int i) {
            return doubleBits(valueAt(i));
        }
    }

    private static final class Tag extends Thing {
        private final int label;

        Tag(int label) {
            this.label = label;
        }

        int kind() {
            return TAG;
        }
    }

    private static final class Deck {
        private final int place;
        private final float loop;
        private float pace;
        private float head;
        private double level;

        Deck(int place, float pace, float loop) {
            this.place = place;
            this.pace = pace;
            this.loop = loop;
        }
    }

    private abstract static class Ear {
        final Deck owner;

        Ear(Deck owner) {
            this.owner = owner;
        }

        abstract long heard();
    }

    private static final class DullEar extends Ear {
        DullEar(Deck owner) {
            super(owner);
        }

        long heard() {
            return (int) owner.level / 2;
        }
    }

    private static final class SharpEar extends Ear {
        SharpEar(Deck owner) {
            super(owner);
        }

        long heard() {
            return 1000L * (long) owner.level;
        }
    }

    private final Thing[] shelf;
    private final Deck[] decks;
    private int deckCount;
    /** THE EARS, or null for NOTHING. */
    private Ear[] earRow;
    private boolean sharpAlone;
    /** How often each FINDING has been met, by its number. */
    private final int[] met;
    private int latestEnd;

    public TapeDecks() {
        shelf = new Thing[PLACES];
        decks = new Deck[MOST_DECKS];
        met = new int[FINDINGS + 1];
    }

    public int reel(int place, int n) {
        if (!isPlace(place)) {
            return UNKNOWN;
        }
        int trouble = sizeTrouble(n, LONGEST);
        if (trouble != 0) {
            return trouble;
        }
        shelf[place] = new Reel(n);
        return 1;
    }

    public int list(int place, int n) {
        if (!isPlace(place)) {
            return UNKNOWN;
        }
        int trouble = sizeTrouble(n, LONGEST);
        if (trouble != 0) {
            return trouble;
        }
        shelf[place] = new Cues(n);
        return 1;
    }

    public int tag(int place, int number) {
        if (!isPlace(place)) {
            return UNKNOWN;
        }
        shelf[place] = new Tag(number);
        return 1;
    }

    public int share(int place, int from) {
        if (!isPlace(place) || !isPlace(from)) {
            return UNKNOWN;
        }
        shelf[place] = shelf[from];
        return 1;
    }

    public int drop(int place) {
        if (!isPlace(place)) {
            return UNKNOWN;
        }
        Thing held = shelf[place];
        shelf[place] = null;
        return held == null ? 0 : held.kind();
    }

    public int record(int place, int i, int n) {
        return setValue(place, false, i, givenFloat(n));
    }

    public int cue(int place, int i, int n) {
        return setValue(place, true, i, n / 1000.0);
    }

    public long at(int place, boolean wide, int i)
            throws ClassCastException, NullPointerException, ArrayIndexOutOfBoundsException {
        if (!isPlace(place)) {
            return 0;
        }
        Row row = rowIn(place, wide);
        if (row == null) {
            if (missing(place) == CAST) {
                throw new ClassCastException();
            }
            throw new NullPointerException();
        }
        if (!row.has(i)) {
            throw new ArrayIndexOutOfBoundsException();
        }
        return row.bitsAt(i);
    }

    public int left(int place, boolean wide, int i, int j) {
        if (!isPlace(place)) {
            return UNKNOWN;
        }
        Row row = rowIn(place, wide);
        if (row == null) {
            return found(missing(place));
        }
        if (!row.has(i) || !row.has(j)) {
            return found(BEYOND);
        }
        double value = row.valueAt(i);
        double by = row.valueAt(j);
        if (isEndless(value) || by == 0.0) {
            return found(ZERO);
        }
        row.put(i, leftOf(value, by));
        return 1;
    }

    public int loud(int place, boolean wide, int i) {
        if (!isPlace(place)) {
            return UNKNOWN;
        }
        Row row = rowIn(place, wide);
        if (row == null) {
            return found(missing(place));
        }
        if (!row.has(i)) {
            return found(BEYOND);
        }
        // A double holds the product of two floats whole, so that of samples is rounded only once, by put().
        double value = row.valueAt(i);
        row.put(i, value * value);
        return 1;
    }

    public int number(int place) {
        if (!isPlace(place)) {
            return NUMBERS_FROM + UNKNOWN;
        }
        if (shelf[place] instanceof Tag tag) {
            return tag.label;
        }
        return NUMBERS_FROM + found(missing(place));
    }

    public int deck(int place, int speed, int loop) {
        if (!isPlace(place)) {
            return UNKNOWN;
        }
        if (loop <= 0) {
            return OUTSIDE;
        }
        if (deckCount < 0 || deckCount >= decks.length) {
            return FULL;
        }
        int made = deckCount;
        decks[made] = new Deck(place, givenFloat(speed), givenFloat(loop));
        deckCount = made + 1;
        return made;
    }

    public int speed(int deck, int n) {
        Deck known = deckOf(deck);
        if (known == null) {
            return UNKNOWN;
        }
        known.pace = givenFloat(n);
        return 1;
    }

    public int play(int deck, int ticks) {
        Deck known = deckOf(deck);
        if (known == null) {
            return UNKNOWN;
        }
        if (ticks < 0 || ticks > MOST_TICKS) {
            return OUTSIDE;
        }
        latestEnd = 0;
        for (int done = 0; done < ticks; done++) {
            int finding = tick(known);
            if (finding != NO_FINDING) {
                latestEnd = found(finding);
                return done;
            }
        }
        return ticks;
    }

    public int finding() {
        return latestEnd;
    }

    public int seek(int deck, int place, int i) {
        Deck known = deckOf(deck);
        if (known == null || !isPlace(place)) {
            return UNKNOWN;
        }
        Row list = rowIn(place, true);
        if (list == null) {
            return found(missing(place));
        }
        if (!list.has(i)) {
            return found(BEYOND);
        }
        // A cue that has an end may be endless as a float: the float is what LEFT is of.
        float sought = (float) list.valueAt(i);
        if (isEndless(sought)) {
            return found(ZERO);
        }
        known.head = (float) leftOf(sought, known.loop);
        return 1;
    }

    public int mark(int deck, int place, int i) {
        Deck known = deckOf(deck);
        if (known == null) {
            return UNKNOWN;
        }
        return setValue(place, true, i, known.head);
    }

    public long frames(int deck, int often) {
        Deck known = deckOf(deck);
        if (known == null) {
            return LONGS_FROM + UNKNOWN;
        }
        if (often < 0 || often > MOST_DOUBLINGS) {
            return LONGS_FROM + OUTSIDE;
        }
        float doubled = known.head;
        for (int k = 0; k < often; k++) {
            doubled = doubled * 2.0f;
        }
        return (long) doubled;
    }

    public long cut(int place, int i, int to) {
        if (!isPlace(place)) {
            return LONGS_FROM + UNKNOWN;
        }
        if (to < 0 || to > 4) {
            return LONGS_FROM + OUTSIDE;
        }
        Row reel = rowIn(place, false);
        if (reel == null) {
            return LONGS_FROM + found(missing(place));
        }
        if (!reel.has(i)) {
            return LONGS_FROM + found(BEYOND);
        }
        return cutSample((float) reel.valueAt(i), to);
    }

    public int stamp(int reel, int list, int i, long v) {
        if (!isPlace(reel) || !isPlace(list)) {
            return UNKNOWN;
        }
        int finding = takenFinding(reel, false, i);
        if (finding == NO_FINDING) {
            finding = takenFinding(list, true, i);
        }
        if (finding != NO_FINDING) {
            return found(finding);
        }
        float sample = (float) v;
        double cue = (double) v;
        setValue(reel, false, i, sample);
        setValue(list, true, i, cue);
        return (long) sample == v && (long) cue == v ? 1 : 0;
    }

    public long told(int deck, int what) {
        Deck known = deckOf(deck);
        if (known == null) {
            return 0;
        }
        switch (what) {
            case 0:
                return floatBits(known.head);
            case 1:
                return floatBits(known.pace);
            case 2:
                return floatBits(known.loop);
            case 3:
                return doubleBits(known.level);
            default:
                return 0;
        }
    }

    public int ears(boolean sharp, int n) {
        int trouble = sizeTrouble(n, MOST_EARS);
        if (trouble != 0) {
            return trouble;
        }
        earRow = new Ear[n < 0 ? 0 : n];
        sharpAlone = sharp;
        return 1;
    }

    public int ear(int i, int sort, int deck) {
        Deck known = deckOf(deck);
        if (known == null) {
            return UNKNOWN;
        }
        if (sort != DULL && sort != SHARP) {
            return OUTSIDE;
        }
        if (earRow == null) {
            return found(NOTHING);
        }
        if (i < 0 || i >= earRow.length) {
            return found(BEYOND);
        }
        if (sharpAlone && sort != SHARP) {
            return found(STORE);
        }
        earRow[i] = sort == SHARP ? new SharpEar(known) : new DullEar(known);
        return 1;
    }

    public long hear(int i) {
        if (earRow == null) {
            return LONGS_FROM + found(NOTHING);
        }
        if (i < 0 || i >= earRow.length) {
            return LONGS_FROM + found(BEYOND);
        }
        Ear hearing = earRow[i];
        return hearing == null ? LONGS_FROM + found(NOTHING) : hearing.heard();
    }

    public int count(int what) {
        if (what == 0) {
            return deckCount;
        }
        if (what == 1) {
            return placesInUse();
        }
        if (what == 2) {
            return earsInPlace();
        }
        int finding = what - COUNTED_AHEAD_OF_FINDINGS;
        return finding >= 1 && finding < met.length ? met[finding] : OUTSIDE;
    }

    public int clear() {
        int before = deckCount;
        for (int i = 0; i < shelf.length; i++) {
            shelf[i] = null;
        }
        for (int i = 0; i < decks.length; i++) {
            decks[i] = null;
        }
        for (int i = 0; i < met.length; i++) {
            met[i] = 0;
        }
        deckCount = 0;
        earRow = null;
        sharpAlone = false;
        latestEnd = 0;
        return before;
    }

    private static boolean isPlace(int place) {
        return place >= 0 && place < PLACES;
    }

    private Deck deckOf(int deck) {
        return deck >= 0 && deck < deckCount && deck < decks.length ? decks[deck] : null;
    }

    /** The row at a place TAKEN for a REEL (wide: for a LIST), or null where missing() says why not. */
    private Row rowIn(int place, boolean wide) {
        if (isPlace(place) && shelf[place] instanceof Row row && row.kind() == (wide ? LIST : REEL)) {
            return row;
        }
        return null;
    }

    /** Why a place does not hold what it is TAKEN for. */
    private int missing(int place) {
        return isPlace(place) && shelf[place] != null ? CAST : NOTHING;
    }

    private int takenFinding(int place, boolean wide, int i) {
        Row row = rowIn(place, wide);
        if (row == null) {
            return missing(place);
        }
        return row.has(i) ? NO_FINDING : BEYOND;
    }

    private int setValue(int place, boolean wide, int i, double value) {
        if (!isPlace(place)) {
            return UNKNOWN;
        }
        Row row = rowIn(place, wide);
        if (row == null) {
            return found(missing(place));
        }
        if (!row.has(i)) {
            return found(BEYOND);
        }
        row.put(i, value);
        return 1;
    }

    /** OUTSIDE above the most there may be, the FINDING below 0, else 0. */
    private int sizeTrouble(int n, int most) {
        if (n > most) {
            return OUTSIDE;
        }
        return n < 0 ? found(SIZE) : 0;
    }

    /** Counts a FINDING that a call meets, and makes the answer of it. */
    private int found(int finding) {
        if (finding >= 1 && finding < met.length) {
            met[finding]++;
        }
        return FINDINGS_FROM - finding;
    }

    /** One TICK: the FINDING that it meets, with nothing changed, or NO_FINDING. */
    private int tick(Deck deck) {
        Row reel = rowIn(deck.place, false);
        if (reel == null) {
            return missing(deck.place);
        }
        int i = (int) deck.head;
        if (!reel.has(i)) {
            return BEYOND;
        }
        double level = deck.level + reel.valueAt(i);
        if (isEndless(level)) {
            return ZERO;
        }
        deck.level = leftOf(level, 4096.0);
        float moved = deck.head + deck.pace;
        deck.head = (float) leftOf(moved, deck.loop);
        return NO_FINDING;
    }

    private static long cutSample(float sample, int to) {
        switch (to) {
            case 0:
                return (long) sample;
            case 1:
                return (long) (double) sample;
            case 2:
                return (int) sample;
            case 3:
                return (short) sample;
            default:
                return (byte) sample;
        }
    }

    private int placesInUse() {
        int used = 0;
        for (int i = 0; i < shelf.length; i++) {
            if (shelf[i] != null) {
                used++;
            }
        }
        return used;
    }

    private int earsInPlace() {
        if (earRow == null) {
            return 0;
        }
        int there = 0;
        for (int i = 0; i < earRow.length; i++) {
            if (earRow[i] != null) {
                there++;
            }
        }
        return there;
    }

    private static float givenFloat(int n) {
        return (float) n / 1000.0f;
    }

    private static boolean isEndless(double x) {
        double most = 1.7976931348623157e308;
        return x > most || x < -most;
    }

    /**
     * LEFT of x, which has an end, by another number than 0.0. LANGUAGE.md leaves no % on doubles, so what is
     * taken away is halved from the greatest doubling of y that fits: each step is exact. LEFT of two floats
     * is a float itself, so this serves for them too.
     */
    private static double leftOf(double x, double y) {
        double rest = x < 0.0 ? -x : x;
        double by = y < 0.0 ? -y : y;
        if (rest < by) {
            return x;
        }
        int doublings = 0;
        while (doublings < ENOUGH_DOUBLINGS && by <= rest * 0.5) {
            by = by * 2.0;
            doublings++;
        }
        for (int k = doublings; k >= 0; k--) {
            if (rest >= by) {
                rest = rest - by;
            }
            by = by * 0.5;
        }
        return x < 0.0 ? -rest : rest;
    }

    private static long floatBits(float x) {
        long bits = bitsWithoutSign(x, FLOAT_WIDTH, FLOAT_BIAS);
        return isNegative(x) ? (int) (bits | 1L << 31) : bits;
    }

    private static long doubleBits(double x) {
        long bits = bitsWithoutSign(x, DOUBLE_WIDTH, DOUBLE_BIAS);
        return isNegative(x) ? bits | 1L << 63 : bits;
    }

    /** Of the zeros, one by -0.0 is endless below 0: no comparison tells them apart. */
    private static boolean isNegative(double x) {
        return x < 0.0 || x == 0.0 && 1.0 / x < 0.0;
    }

    /** The exponent's field, and behind it so many bits (width) as the form of the number has. */
    private static long bitsWithoutSign(double x, int width, int bias) {
        double size = x < 0.0 ? -x : x;
        if (size == 0.0) {
            return 0;
        }
        if (isEndless(size)) {
            return (2L * bias + 1) << width;
        }
        double leading = (double) (1L << width);
        int field = bias + width;
        for (; size >= 2.0 * leading && field < 2 * bias; field++) {
            size = size * 0.5;
        }
        for (; size < leading && field > 1; field--) {
            size = size * 2.0;
        }
        // size is whole now; its leading bit adds the one that the field lacks, but for numbers too small to have it.
        return ((field - 1L) << width) + (long) size;
    }
}
