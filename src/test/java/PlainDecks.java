/**
 * The document once more, written for tests alone and in another way: rows are Java's own arrays in a row of
 * objects, % and BITS are Java's, and what the machine throws is what a call meets.
 */
final class PlainDecks {
    private static final long FAR = -5_000_000_000_000_000_000L;

    private static final class PlainDeck {
        int place;
        float head;
        float speed;
        float loop;
        double level;
    }

    private static class AnyEar {
        PlainDeck deck;

        long hears() {
            return (int) (deck.level / 2.0);
        }
    }

    private static final class KeenEar extends AnyEar {
        @Override
        long hears() {
            return (long) deck.level * 1000;
        }
    }

    private static final class EndlessException extends RuntimeException {
        private static final long serialVersionUID = 1L;
    }

    private Object[] shelf = new Object[10];
    private PlainDeck[] decks = new PlainDeck[8];
    private int deckCount = 0;
    private AnyEar[] ears = null;
    private int[] met = new int[7];
    private int ended = 0;

    private interface Act {
        long run();
    }

    private static int findingOf(RuntimeException e) {
        if (e instanceof NullPointerException) {
            return 1;
        }
        if (e instanceof ArrayIndexOutOfBoundsException) {
            return 2;
        }
        if (e instanceof ClassCastException) {
            return 3;
        }
        if (e instanceof NegativeArraySizeException) {
            return 4;
        }
        if (e instanceof ArrayStoreException) {
            return 5;
        }
        if (e instanceof EndlessException) {
            return 6;
        }
        throw e;
    }

    private long met(long from, Act act) {
        try {
            return act.run();
        } catch (RuntimeException e) {
            int finding = findingOf(e);
            met[finding]++;
            return from - 30 - finding;
        }
    }

    private boolean noPlace(int place) {
        return place < 0 || place > 9;
    }

    private boolean noDeck(int deck) {
        return deck < 0 || deck >= deckCount;
    }

    private static double leftOf(double x, double y) {
        double left = x % y;
        if (Double.isNaN(left)) {
            throw new EndlessException();
        }
        return left;
    }

    private static float leftOf(float x, float y) {
        float left = x % y;
        if (Float.isNaN(left)) {
            throw new EndlessException();
        }
        return left;
    }

    long reel(int place, int n) {
        if (noPlace(place)) {
            return -1;
        }
        return n > 30 ? -2 : met(0, () -> {
            shelf[place] = new float[n];
            return 1;
        });
    }

    long list(int place, int n) {
        if (noPlace(place)) {
            return -1;
        }
        return n > 30 ? -2 : met(0, () -> {
            shelf[place] = new double[n];
            return 1;
        });
    }

    long tag(int place, int number) {
        if (noPlace(place)) {
            return -1;
        }
        shelf[place] = number;
        return 1;
    }

    long share(int place, int from) {
        if (noPlace(place) || noPlace(from)) {
            return -1;
        }
        shelf[place] = shelf[from];
        return 1;
    }

    long drop(int place) {
        if (noPlace(place)) {
            return -1;
        }
        Object was = shelf[place];
        shelf[place] = null;
        return was == null ? 0 : was instanceof float[] ? 1 : was instanceof double[] ? 2 : 3;
    }

    long record(int place, int i, int n) {
        return noPlace(place) ? -1 : met(0, () -> {
            ((float[]) shelf[place])[i] = (float) n / 1000.0f;
            return 1;
        });
    }

    long cue(int place, int i, int n) {
        return noPlace(place) ? -1 : met(0, () -> {
            ((double[]) shelf[place])[i] = (double) n / 1000.0;
            return 1;
        });
    }

    long at(int place, boolean wide, int i) {
        if (noPlace(place)) {
            return 0;
        }
        return wide ? Double.doubleToRawLongBits(((double[]) shelf[place])[i])
                : Float.floatToRawIntBits(((float[]) shelf[place])[i]);
    }

    long left(int place, boolean wide, int i, int j) {
        return noPlace(place) ? -1 : met(0, () -> {
            if (wide) {
                double[] row = (double[]) shelf[place];
                row[i] = leftOf(row[i], row[j]);
            } else {
                float[] row = (float[]) shelf[place];
                row[i] = leftOf(row[i], row[j]);
            }
            return 1;
        });
    }

    long loud(int place, boolean wide, int i) {
        return noPlace(place) ? -1 : met(0, () -> {
            if (wide) {
                double[] row = (double[]) shelf[place];
                row[i] *= row[i];
            } else {
                float[] row = (float[]) shelf[place];
                row[i] *= row[i];
            }
            return 1;
        });
    }

    long number(int place) {
        return noPlace(place) ? -2000000001 : met(-2000000000, () -> (int) (Integer) shelf[place]);
    }

    long deck(int place, int speed, int loop) {
        if (noPlace(place)) {
            return -1;
        }
        if (!((float) loop / 1000.0f > 0.0f)) {
            return -2;
        }
        if (deckCount == 8) {
            return -4;
        }
        PlainDeck made = new PlainDeck();
        made.place = place;
        made.speed = (float) speed / 1000.0f;
        made.loop = (float) loop / 1000.0f;
        decks[deckCount] = made;
        return deckCount++;
    }

    long speed(int deck, int n) {
        if (noDeck(deck)) {
            return -1;
        }
        decks[deck].speed = (float) n / 1000.0f;
        return 1;
    }

    private long tick(PlainDeck deck) {
        float sample = ((float[]) shelf[deck.place])[(int) deck.head];
        double level = leftOf(deck.level + (double) sample, 4096.0);
        deck.head = leftOf(deck.head + deck.speed, deck.loop);
        deck.level = level;
        return 0;
    }

    long play(int deck, int ticks) {
        if (noDeck(deck)) {
            return -1;
        }
        if (ticks < 0 || ticks > 100) {
            return -2;
        }
        int done = 0;
        ended = 0;
        while (done < ticks && ended == 0) {
            ended = (int) met(0, () -> tick(decks[deck]));
            done += ended == 0 ? 1 : 0;
        }
        return done;
    }

    long finding() {
        return ended;
    }

    long seek(int deck, int place, int i) {
        return noDeck(deck) || noPlace(place) ? -1 : met(0, () -> {
            decks[deck].head = leftOf((float) ((double[]) shelf[place])[i], decks[deck].loop);
            return 1;
        });
    }

    long mark(int deck, int place, int i) {
        return noDeck(deck) || noPlace(place) ? -1 : met(0, () -> {
            ((double[]) shelf[place])[i] = decks[deck].head;
            return 1;
        });
    }

    long frames(int deck, int often) {
        if (noDeck(deck)) {
            return FAR - 1;
        }
        if (often < 0 || often > 140) {
            return FAR - 2;
        }
        float head = decks[deck].head;
        for (int k = 0; k < often; k++) {
            head *= 2;
        }
        return (long) head;
    }

    long cut(int place, int i, int to) {
        if (noPlace(place)) {
            return FAR - 1;
        }
        if (to < 0 || to > 4) {
            return FAR - 2;
        }
        return met(FAR, () -> {
            float f = ((float[]) shelf[place])[i];
            return to == 0 ? (long) f : to == 1 ? (long) (double) f : to == 2 ? (int) f : to == 3 ? (short) f : (byte) f;
        });
    }

    long stamp(int reel, int list, int i, long v) {
        return noPlace(reel) || noPlace(list) ? -1 : met(0, () -> {
            float[] samples = (float[]) shelf[reel];
            float was = samples[i];
            double[] cues = (double[]) shelf[list];
            cues[i] = v;
            samples[i] = v;
            return (long) samples[i] == v && (long) cues[i] == v ? 1 : 0;
        });
    }

    long told(int deck, int what) {
        if (noDeck(deck) || what < 0 || what > 3) {
            return 0;
        }
        PlainDeck d = decks[deck];
        if (what == 3) {
            return Double.doubleToRawLongBits(d.level);
        }
        return Float.floatToRawIntBits(what == 0 ? d.head : what == 1 ? d.speed : d.loop);
    }

    long ears(boolean sharp, int n) {
        return n > 5 ? -2 : met(0, () -> {
            ears = sharp ? new KeenEar[n] : new AnyEar[n];
            return 1;
        });
    }

    long ear(int i, int sort, int deck) {
        if (noDeck(deck)) {
            return -1;
        }
        if (sort < 0 || sort > 1) {
            return -2;
        }
        return met(0, () -> {
            AnyEar made = sort == 1 ? new KeenEar() : new AnyEar();
            made.deck = decks[deck];
            ears[i] = made;
            return 1;
        });
    }

    long hear(int i) {
        return met(FAR, () -> ears[i].hears());
    }

    long count(int what) {
        if (what < 0 || what > 8) {
            return -2;
        }
        if (what == 0) {
            return deckCount;
        }
        Object[] row = what == 1 ? shelf : ears;
        if (what > 2) {
            return met[what - 2];
        }
        int there = 0;
        for (int i = 0; row != null && i < row.length; i++) {
            there += row[i] == null ? 0 : 1;
        }
        return there;
    }

    long clear() {
        int before = deckCount;
        shelf = new Object[10];
        decks = new PlainDeck[8];
        deckCount = 0;
        ears = null;
        met = new int[7];
        ended = 0;
        return before;
    }
}
