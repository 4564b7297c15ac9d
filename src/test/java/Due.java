/** Counts the answers that are not the ones due, and ends a test by them. */
final class Due {
    static final long FAR = -5_000_000_000_000_000_000L;
    static final long CLASS_CAST = 1, NULL_POINTER = 2, ARRAY_INDEX = 3;

    private static int wrong = 0;
    private static int asked = 0;
    private static String sentence = "";

    private Due() {
    }

    /** A test of one sentence of the document: what it asks is told under that sentence. */
    static void test(String words, Runnable body) {
        int before = asked;
        sentence = "[" + words + "] ";
        try {
            body.run();
        } catch (RuntimeException e) {
            is("threw " + e, 1, 0);
        }
        if (asked == before) {
            is("asks nothing", 1, 0);
        }
        sentence = "";
    }

    static void is(String call, long got, long want) {
        asked++;
        if (got != want) {
            wrong++;
            if (wrong <= 50) {
                System.out.println(sentence + call + " answered " + got + ", due is " + want);
            }
        }
    }

    static void holds(String what, boolean so) {
        is(what, so ? 1 : 0, 1);
    }

    static void same(String what, String got, String want) {
        if (!got.equals(want)) {
            is(what + ":\n  " + got + "\n  for\n  " + want + "\n  (the same)", 0, 1);
        } else {
            is(what, 1, 1);
        }
    }

    /** Which exception at() throws: 0 for none. */
    static long thrownByAt(TapeDecks x, int place, boolean wide, int i) {
        try {
            x.at(place, wide, i);
            return 0;
        } catch (ClassCastException e) {
            return CLASS_CAST;
        } catch (NullPointerException e) {
            return NULL_POINTER;
        } catch (ArrayIndexOutOfBoundsException e) {
            return ARRAY_INDEX;
        }
    }

    static void end() {
        System.out.println(asked - wrong + " answers as due, " + wrong + " not");
        if (wrong != 0 || asked == 0) {
            System.exit(1);
        }
    }
}
