import java.util.Random;

/** Long runs of chosen calls, each answer against that of the document written in another way (PlainDecks). */
public final class LongRunsTest {
    /** With the look at the end, and some calls made twice, an object stays below its 512 calls. */
    private static final int RUNS = 6000, CALLS = 440;
    private static final int[] INTS = {
        Integer.MIN_VALUE, Integer.MAX_VALUE, -1, 0, 1, 2, 5, 6, 7, 8, 9, 10, 29, 30, 31, 100, 101, 140, 141, 1000, -1000
    };
    private static final int[] GIVEN = {
        0, 1, -1, 250, -250, 333, 500, -500, 999, 1000, -1000, 1500, 2000, 3000, 4096000, -4096000, 4095999, 16777217,
        Integer.MAX_VALUE, Integer.MIN_VALUE
    };

    private final Random random;
    private final int run;
    private final TapeDecks x = new TapeDecks();
    private final PlainDecks plain = new PlainDecks();
    private final int wild;

    private LongRunsTest(int run) {
        this.run = run;
        random = new Random(run);
        // Some runs ask for much that is not there, some for hardly anything.
        wild = run % 3 == 0 ? 6 : run % 3 == 1 ? 25 : 200;
    }

    private int pick(int below) {
        return random.nextInt(wild) == 0 ? INTS[random.nextInt(INTS.length)] : random.nextInt(below);
    }

    private int place() {
        return random.nextInt(4) == 0 ? pick(10) : pick(4);
    }

    private int cell() {
        return pick(5);
    }

    private int given() {
        int sort = random.nextInt(3);
        return sort == 0 ? GIVEN[random.nextInt(GIVEN.length)] : sort == 1 ? random.nextInt(20001) - 10000 : random.nextInt();
    }

    private long anyLong() {
        int sort = random.nextInt(4);
        long any = random.nextLong();
        if (sort == 0) {
            return any >> random.nextInt(64);
        }
        if (sort == 1) {
            return Long.MAX_VALUE - random.nextInt(3);
        }
        return sort == 2 ? (1L << random.nextInt(64)) + random.nextInt(3) - 1 : any;
    }

    private void same(String call, long got, long due) {
        Due.is("run " + run + ": " + call, got, due);
    }

    private void at(int place, boolean wide, int i) {
        long thrown = 0;
        long due = 0;
        try {
            due = plain.at(place, wide, i);
        } catch (ClassCastException e) {
            thrown = Due.CLASS_CAST;
        } catch (NullPointerException e) {
            thrown = Due.NULL_POINTER;
        } catch (ArrayIndexOutOfBoundsException e) {
            thrown = Due.ARRAY_INDEX;
        }
        same("what at() throws", Due.thrownByAt(x, place, wide, i), thrown);
        if (thrown == 0) {
            same("at(" + place + ", " + wide + ", " + i + ")", x.at(place, wide, i), due);
        }
    }

    private void callOfTheShelf() {
        int place = place();
        int other = place();
        int i = cell();
        int j = cell();
        int n = given();
        boolean wide = random.nextBoolean();
        switch (random.nextInt(14)) {
            case 0 -> same("reel", x.reel(place, j), plain.reel(place, j));
            case 1 -> same("list", x.list(place, j), plain.list(place, j));
            case 2 -> same("tag", x.tag(place, n), plain.tag(place, n));
            case 3 -> same("share", x.share(place, other), plain.share(place, other));
            case 4 -> same("drop", x.drop(other), plain.drop(other));
            case 5, 6 -> same("record", x.record(place, i, n), plain.record(place, i, n));
            case 7 -> same("cue", x.cue(place, i, n), plain.cue(place, i, n));
            case 8 -> same("left", x.left(place, wide, i, j), plain.left(place, wide, i, j));
            case 9 -> same("loud", x.loud(place, wide, i), plain.loud(place, wide, i));
            case 10 -> same("number", x.number(place), plain.number(place));
            case 11 -> same("cut", x.cut(place, i, j), plain.cut(place, i, j));
            case 12 -> {
                long v = anyLong();
                same("stamp", x.stamp(place, other, i, v), plain.stamp(place, other, i, v));
            }
            default -> at(place, wide, i);
        }
    }

    private void callOfTheDecks() {
        int deck = random.nextBoolean() ? 0 : pick(3);
        int place = place();
        int i = cell();
        int n = given();
        boolean sharp = random.nextBoolean();
        switch (random.nextInt(16)) {
            case 0 -> same("deck", x.deck(place, n, i * 1000), plain.deck(place, n, i * 1000));
            case 1 -> same("speed", x.speed(deck, n), plain.speed(deck, n));
            case 2, 3, 4 -> {
                int ticks = pick(101);
                same("play", x.play(deck, ticks), plain.play(deck, ticks));
            }
            case 5 -> same("finding", x.finding(), plain.finding());
            case 6, 7 -> same("seek", x.seek(deck, place, i), plain.seek(deck, place, i));
            case 8 -> same("mark", x.mark(deck, place, i), plain.mark(deck, place, i));
            case 9 -> {
                int often = pick(141);
                same("frames", x.frames(deck, often), plain.frames(deck, often));
            }
            case 10 -> same("told", x.told(deck, i), plain.told(deck, i));
            case 11 -> {
                int size = pick(6);
                same("ears", x.ears(sharp, size), plain.ears(sharp, size));
            }
            case 12 -> {
                int sort = pick(2);
                same("ear", x.ear(i, sort, deck), plain.ear(i, sort, deck));
            }
            case 13 -> same("hear", x.hear(i), plain.hear(i));
            case 14 -> {
                int what = pick(9);
                same("count", x.count(what), plain.count(what));
            }
            default -> {
                if (random.nextInt(20) == 0) {
                    same("clear", x.clear(), plain.clear());
                }
            }
        }
    }

    private void lookAtAll() {
        for (int what = 0; what <= 8; what++) {
            same("count(" + what + ")", x.count(what), plain.count(what));
        }
        for (int what = 0; what <= 3; what++) {
            same("told(0, " + what + ")", x.told(0, what), plain.told(0, what));
        }
        same("finding()", x.finding(), plain.finding());
        same("hear(0)", x.hear(0), plain.hear(0));
        for (int place = 0; place < 4; place++) {
            at(place, true, 0);
            at(place, false, 0);
        }
    }

    private void go() {
        for (int call = 0; call < CALLS; call++) {
            if (random.nextBoolean()) {
                callOfTheShelf();
            } else {
                callOfTheDecks();
            }
        }
        lookAtAll();
    }

    public static void main(String[] args) {
        for (int run = 0; run < RUNS; run++) {
            new LongRunsTest(run).go();
        }
        Due.end();
    }
}
