/** All that can be told of an object by its calls. A look counts FINDINGS itself, so it is the last of an object. */
final class Look {
    private static final int LONGEST = 30;

    /** count(0) .. count(8). */
    final long[] counts = new long[9];
    final long finding;
    /** DECKS, THE SHELF and THE EARS. */
    final String rest;

    Look(TapeDecks x) {
        for (int what = 0; what < counts.length; what++) {
            counts[what] = x.count(what);
        }
        finding = x.finding();
        StringBuilder text = new StringBuilder();
        decks(x, text);
        for (int place = 0; place <= 9; place++) {
            place(x, place, text);
        }
        ears(x, text);
        rest = text.toString();
    }

    /** The same in all, but for so many more of a FINDING (1 .. 6; 0 for none). */
    void isAs(Look other, int met, int often) {
        for (int what = 0; what < counts.length; what++) {
            long more = met != 0 && what == 2 + met ? often : 0;
            Due.is("count(" + what + ")", counts[what], other.counts[what] + more);
        }
        Due.same("what is there", rest, other.rest);
    }

    private static void decks(TapeDecks x, StringBuilder text) {
        for (int deck = 0; deck <= 7; deck++) {
            text.append(" deck ").append(deck);
            for (int what = 0; what <= 3; what++) {
                text.append(' ').append(x.told(deck, what));
            }
        }
    }

    private static void place(TapeDecks x, int place, StringBuilder text) {
        text.append(" place ").append(place);
        long asReel = Due.thrownByAt(x, place, false, -1);
        long asList = Due.thrownByAt(x, place, true, -1);
        if (asReel == Due.NULL_POINTER) {
            text.append(" nothing");
        } else if (asReel == Due.ARRAY_INDEX) {
            text.append(" reel");
            row(x, place, false, text);
        } else if (asList == Due.ARRAY_INDEX) {
            text.append(" list");
            row(x, place, true, text);
        } else {
            text.append(" tag ").append(x.number(place));
        }
    }

    private static void row(TapeDecks x, int place, boolean wide, StringBuilder text) {
        for (int i = 0; i <= LONGEST; i++) {
            try {
                text.append(' ').append(x.at(place, wide, i));
            } catch (ArrayIndexOutOfBoundsException e) {
                return;
            }
        }
    }

    private static void ears(TapeDecks x, StringBuilder text) {
        text.append(" ears");
        for (int i = 0; i <= 5; i++) {
            text.append(' ').append(x.hear(i));
        }
        // A DULL EAR for DECK 0 tells THE EARS for SHARP ones alone from those for any.
        text.append(" dull ").append(x.ear(0, 0, 0));
    }
}
