import java.util.function.Supplier;

/**
 * "Refused, and nothing changes: UNKNOWN, OUTSIDE, FULL: the first of these that fits, ahead of FINDINGS", "CAST comes
 * ahead of NOTHING and BEYOND", and "a call that meets one changes nothing else, but play() as told": each refusal
 * and each FINDING of each call, and where two fit the one that comes first; all else is looked at behind it.
 */
public final class NothingElseTest {
    private static final int UNKNOWN = -1, OUTSIDE = -2, FULL = -4;
    private static final int NOTHING = 1, BEYOND = 2, CAST = 3, SIZE = 4, STORE = 5, ZERO = 6;
    private static final int MIN = Integer.MIN_VALUE, MAX = Integer.MAX_VALUE;
    private static final int[] NO_PLACES = {-1, 10, MIN, MAX};
    private static final int[] NO_DECKS = {-1, 8, MIN, MAX};
    private static final int[] BESIDE_THREE = {3, -1, 30, MIN, MAX};

    private static Supplier<TapeDecks> world = Worlds::full;

    private interface Call {
        long on(TapeDecks x);
    }

    /** A call that is refused: its answer, and all as it was. */
    private static void refused(String name, long due, Call call) {
        Due.test(name, () -> {
            TapeDecks x = world.get();
            long finding = x.finding();
            Due.is("it", call.on(x), due);
            Look after = new Look(x);
            Due.is("finding()", after.finding, finding);
            after.isAs(new Look(world.get()), 0, 0);
        });
    }

    /** A call that meets a FINDING, told from a number downwards: it is counted once, and all else is as it was. */
    private static void meets(String name, long from, int finding, Call call) {
        Due.test(name, () -> {
            TapeDecks x = world.get();
            long ended = x.finding();
            Due.is("it", call.on(x), from - 30 - finding);
            Look after = new Look(x);
            Due.is("finding()", after.finding, ended);
            after.isAs(new Look(world.get()), finding, 1);
        });
    }

    private static void meets(String name, int finding, Call call) {
        meets(name, 0, finding, call);
    }

    /** A play that a FINDING ends: all is as behind a play of the TICKS that were done, but for what is told of it. */
    private static void stops(String name, int deck, int ticks, int done, int finding) {
        Due.test(name, () -> {
            TapeDecks x = world.get();
            Due.is("it", x.play(deck, ticks), done);
            Look after = new Look(x);
            Due.is("finding()", after.finding, -30 - finding);
            TapeDecks y = world.get();
            Due.is("the TICKS ahead of it", y.play(deck, done), done);
            Due.is("by no FINDING", y.finding(), 0);
            after.isAs(new Look(y), finding, 1);
        });
    }

    private static void shelf() {
        for (int no : NO_PLACES) {
            refused("reel: UNKNOWN", UNKNOWN, x -> x.reel(no, 3));
            refused("reel: UNKNOWN ahead of OUTSIDE", UNKNOWN, x -> x.reel(no, 31));
            refused("reel: UNKNOWN ahead of SIZE", UNKNOWN, x -> x.reel(no, -1));
            refused("list: UNKNOWN", UNKNOWN, x -> x.list(no, 3));
            refused("list: UNKNOWN ahead of OUTSIDE", UNKNOWN, x -> x.list(no, 31));
            refused("list: UNKNOWN ahead of SIZE", UNKNOWN, x -> x.list(no, -1));
            refused("tag: UNKNOWN", UNKNOWN, x -> x.tag(no, 5));
            refused("share: UNKNOWN, the one", UNKNOWN, x -> x.share(no, 0));
            refused("share: UNKNOWN, the other", UNKNOWN, x -> x.share(0, no));
            refused("share: UNKNOWN, both", UNKNOWN, x -> x.share(no, no));
            refused("drop: UNKNOWN", UNKNOWN, x -> x.drop(no));
        }
        for (int place = 0; place <= 9; place++) {
            int at = place;
            refused("reel: OUTSIDE at " + at, OUTSIDE, x -> x.reel(at, 31));
            refused("list: OUTSIDE at " + at, OUTSIDE, x -> x.list(at, 31));
            meets("reel: SIZE at " + at, SIZE, x -> x.reel(at, -1));
            meets("list: SIZE at " + at, SIZE, x -> x.list(at, -1));
        }
        refused("reel: OUTSIDE far out", OUTSIDE, x -> x.reel(0, MAX));
        refused("list: OUTSIDE far out", OUTSIDE, x -> x.list(1, MAX));
        meets("reel: SIZE far below", SIZE, x -> x.reel(0, MIN));
        meets("list: SIZE far below", SIZE, x -> x.list(1, MIN));
    }

    /** What takes a place for a REEL (wide: for a LIST) and looks at its place i. */
    private interface RowCall {
        long on(TapeDecks x, int place, int i);
    }

    /** What cannot be TAKEN for the row, and the rows that have no place i. */
    private static void rowFindings(String name, boolean wide, long from, RowCall call) {
        int[] others = {wide ? Worlds.REEL : Worlds.LIST, wide ? Worlds.NO_SAMPLES : Worlds.NO_CUES, Worlds.TAG};
        for (int other : others) {
            meets(name + ": CAST at " + other, from, CAST, x -> call.on(x, other, 0));
            for (int i : BESIDE_THREE) {
                meets(name + ": CAST ahead of BEYOND at " + other, from, CAST, x -> call.on(x, other, i));
            }
        }
        meets(name + ": NOTHING", from, NOTHING, x -> call.on(x, Worlds.NONE, 0));
        int row = wide ? Worlds.LIST : Worlds.REEL;
        int empty = wide ? Worlds.NO_CUES : Worlds.NO_SAMPLES;
        for (int i : BESIDE_THREE) {
            meets(name + ": NOTHING, and no BEYOND of it", from, NOTHING, x -> call.on(x, Worlds.NONE, i));
            meets(name + ": BEYOND " + i, from, BEYOND, x -> call.on(x, row, i));
            meets(name + ": BEYOND " + i + " of none", from, BEYOND, x -> call.on(x, empty, i));
        }
        meets(name + ": BEYOND 0 of none", from, BEYOND, x -> call.on(x, empty, 0));
    }

    private static void rows() {
        rowFindings("record", false, 0, (x, place, i) -> x.record(place, i, 5));
        rowFindings("cue", true, 0, (x, place, i) -> x.cue(place, i, 5));
        rowFindings("left of samples, i", false, 0, (x, place, i) -> x.left(place, false, i, 0));
        rowFindings("left of samples, i and j", false, 0, (x, place, i) -> x.left(place, false, i, i));
        rowFindings("left of samples, j", false, 0, (x, place, i) -> x.left(place, false, 0, i));
        rowFindings("left of cues, i", true, 0, (x, place, i) -> x.left(place, true, i, 0));
        rowFindings("left of cues, i and j", true, 0, (x, place, i) -> x.left(place, true, i, i));
        rowFindings("left of cues, j", true, 0, (x, place, i) -> x.left(place, true, 0, i));
        rowFindings("loud of samples", false, 0, (x, place, i) -> x.loud(place, false, i));
        rowFindings("loud of cues", true, 0, (x, place, i) -> x.loud(place, true, i));
        rowFindings("seek", true, 0, (x, place, i) -> x.seek(0, place, i));
        rowFindings("mark", true, 0, (x, place, i) -> x.mark(0, place, i));
        rowFindings("cut", false, Due.FAR, (x, place, i) -> x.cut(place, i, 0));
        for (int no : NO_PLACES) {
            refused("record: UNKNOWN", UNKNOWN, x -> x.record(no, 0, 5));
            refused("cue: UNKNOWN", UNKNOWN, x -> x.cue(no, 0, 5));
            refused("left: UNKNOWN", UNKNOWN, x -> x.left(no, false, 0, 0));
            refused("left, wide: UNKNOWN", UNKNOWN, x -> x.left(no, true, -1, 99));
            refused("loud: UNKNOWN", UNKNOWN, x -> x.loud(no, false, 0));
            refused("loud, wide: UNKNOWN", UNKNOWN, x -> x.loud(no, true, -1));
        }
    }

    private static void at() {
        for (int no : NO_PLACES) {
            refused("at: UNKNOWN", 0, x -> x.at(no, false, 0));
            refused("at, wide: UNKNOWN ahead of all", 0, x -> x.at(no, true, -1));
        }
        for (int i : new int[] {0, 3, -1, MIN, MAX}) {
            refused("at: CAST of a LIST", Due.CLASS_CAST, x -> Due.thrownByAt(x, Worlds.LIST, false, i));
            refused("at: CAST of a REEL", Due.CLASS_CAST, x -> Due.thrownByAt(x, Worlds.REEL, true, i));
            refused("at: CAST of a LIST of none", Due.CLASS_CAST, x -> Due.thrownByAt(x, Worlds.NO_CUES, false, i));
            refused("at: CAST of a REEL of none", Due.CLASS_CAST, x -> Due.thrownByAt(x, Worlds.NO_SAMPLES, true, i));
            refused("at: CAST of a TAG", Due.CLASS_CAST, x -> Due.thrownByAt(x, Worlds.TAG, false, i));
            refused("at, wide: CAST of a TAG", Due.CLASS_CAST, x -> Due.thrownByAt(x, Worlds.TAG, true, i));
            refused("at: NOTHING", Due.NULL_POINTER, x -> Due.thrownByAt(x, Worlds.NONE, false, i));
            refused("at, wide: NOTHING", Due.NULL_POINTER, x -> Due.thrownByAt(x, Worlds.NONE, true, i));
            refused("at: BEYOND of none", Due.ARRAY_INDEX, x -> Due.thrownByAt(x, Worlds.NO_SAMPLES, false, i));
            refused("at, wide: BEYOND of none", Due.ARRAY_INDEX, x -> Due.thrownByAt(x, Worlds.NO_CUES, true, i));
        }
        for (int i : BESIDE_THREE) {
            refused("at: BEYOND", Due.ARRAY_INDEX, x -> Due.thrownByAt(x, Worlds.REEL, false, i));
            refused("at, wide: BEYOND", Due.ARRAY_INDEX, x -> Due.thrownByAt(x, Worlds.LIST, true, i));
        }
    }

    private static void left() {
        int reel = Worlds.LOUD_REEL;
        int list = Worlds.LOUD_LIST;
        meets("left: ZERO, by 0.0", ZERO, x -> x.left(reel, false, 1, 2));
        meets("left: ZERO, 0.0 by itself", ZERO, x -> x.left(reel, false, 2, 2));
        meets("left: ZERO, of what is endless", ZERO, x -> x.left(reel, false, 0, 1));
        meets("left: ZERO, of what is endless by itself", ZERO, x -> x.left(reel, false, 0, 0));
        meets("left: ZERO, of what is endless by 0.0", ZERO, x -> x.left(reel, false, 0, 2));
        meets("left: BEYOND j ahead of ZERO", BEYOND, x -> x.left(reel, false, 0, 3));
        meets("left: BEYOND i ahead of ZERO", BEYOND, x -> x.left(reel, false, 3, 2));
        meets("left, wide: ZERO, by 0.0", ZERO, x -> x.left(list, true, 1, 2));
        meets("left, wide: ZERO, 0.0 by itself", ZERO, x -> x.left(list, true, 2, 2));
        meets("left, wide: ZERO, of what is endless", ZERO, x -> x.left(list, true, 0, 1));
        meets("left, wide: ZERO, of what is endless by itself", ZERO, x -> x.left(list, true, 0, 0));
        meets("left, wide: ZERO, of what is endless by 0.0", ZERO, x -> x.left(list, true, 0, 2));
        meets("left, wide: BEYOND j ahead of ZERO", BEYOND, x -> x.left(list, true, 0, 4));
        meets("left, wide: BEYOND i ahead of ZERO", BEYOND, x -> x.left(list, true, 4, 2));
        meets("left: CAST ahead of ZERO", CAST, x -> x.left(reel, true, 0, 2));
        meets("left, wide: CAST ahead of ZERO", CAST, x -> x.left(list, false, 0, 2));
    }

    private static void number() {
        for (int no : NO_PLACES) {
            refused("number: UNKNOWN", -2000000001, x -> x.number(no));
        }
        for (int place = 0; place <= 9; place++) {
            int at = place;
            if (at != Worlds.TAG) {
                meets("number: at " + at, -2000000000, at == Worlds.NONE ? NOTHING : CAST, x -> x.number(at));
            }
        }
    }

    private static void decks() {
        for (int no : NO_PLACES) {
            refused("deck: UNKNOWN ahead of FULL", UNKNOWN, x -> x.deck(no, 1, 1));
            refused("deck: UNKNOWN ahead of OUTSIDE and FULL", UNKNOWN, x -> x.deck(no, 1, 0));
        }
        for (int loop : new int[] {0, -1, MIN}) {
            refused("deck: OUTSIDE ahead of FULL", OUTSIDE, x -> x.deck(0, 1, loop));
        }
        refused("deck: FULL", FULL, x -> x.deck(0, 1, 1));
        refused("deck: FULL, though the place holds NOTHING", FULL, x -> x.deck(Worlds.NONE, 1, 1));
        for (int no : NO_DECKS) {
            refused("speed: UNKNOWN", UNKNOWN, x -> x.speed(no, 1));
            refused("play: UNKNOWN", UNKNOWN, x -> x.play(no, 1));
            refused("play: UNKNOWN ahead of OUTSIDE", UNKNOWN, x -> x.play(no, 101));
            refused("frames: UNKNOWN", Due.FAR - 1, x -> x.frames(no, 0));
            refused("frames: UNKNOWN ahead of OUTSIDE", Due.FAR - 1, x -> x.frames(no, 141));
            refused("told: UNKNOWN", 0, x -> x.told(no, 2));
            refused("seek: UNKNOWN, the DECK", UNKNOWN, x -> x.seek(no, Worlds.LIST, 0));
            refused("mark: UNKNOWN, the DECK", UNKNOWN, x -> x.mark(no, Worlds.LIST, 0));
            refused("ear: UNKNOWN", UNKNOWN, x -> x.ear(0, 1, no));
            refused("ear: UNKNOWN ahead of OUTSIDE", UNKNOWN, x -> x.ear(0, 2, no));
            refused("ear: UNKNOWN ahead of BEYOND", UNKNOWN, x -> x.ear(3, 1, no));
            refused("ear: UNKNOWN ahead of STORE", UNKNOWN, x -> x.ear(0, 0, no));
        }
        for (int often : new int[] {-1, 141, MIN, MAX}) {
            refused("frames: OUTSIDE", Due.FAR - 2, x -> x.frames(0, often));
        }
        for (int what : new int[] {-1, 4, MIN, MAX}) {
            refused("told: OUTSIDE", 0, x -> x.told(0, what));
        }
    }

    private static void play() {
        for (int ticks : new int[] {-1, 101, MIN, MAX}) {
            refused("play: OUTSIDE", OUTSIDE, x -> x.play(0, ticks));
            for (int deck = 1; deck <= 7; deck++) {
                int on = deck;
                refused("play: OUTSIDE ahead of FINDINGS of DECK " + on, OUTSIDE, x -> x.play(on, ticks));
            }
        }
        for (int ticks : new int[] {1, 2, 100}) {
            stops("play: NOTHING", 1, ticks, 0, NOTHING);
            stops("play: CAST of a LIST", 2, ticks, 0, CAST);
            stops("play: CAST of a TAG", 3, ticks, 0, CAST);
            stops("play: BEYOND of no samples", 4, ticks, 0, BEYOND);
            stops("play: ZERO", 5, ticks, 0, ZERO);
        }
        stops("play: BEYOND behind the last sample", 6, 4, 3, BEYOND);
        stops("play: BEYOND behind the last sample, long ahead of the end", 6, 100, 3, BEYOND);
        stops("play: ZERO at the second sample", 7, 2, 1, ZERO);
        stops("play: ZERO at the second sample, long ahead of the end", 7, 100, 1, ZERO);
    }

    private static void seekAndMark() {
        for (int no : NO_PLACES) {
            refused("seek: UNKNOWN, the place", UNKNOWN, x -> x.seek(0, no, 0));
            refused("seek: UNKNOWN, both", UNKNOWN, x -> x.seek(8, no, 0));
            refused("mark: UNKNOWN, the place", UNKNOWN, x -> x.mark(0, no, 0));
            refused("mark: UNKNOWN, both", UNKNOWN, x -> x.mark(8, no, 0));
        }
        int[] misfits = {Worlds.REEL, Worlds.TAG, Worlds.NONE, Worlds.NO_CUES, Worlds.LOUD_LIST};
        for (int misfit : misfits) {
            refused("seek: UNKNOWN ahead of FINDINGS", UNKNOWN, x -> x.seek(8, misfit, 0));
            refused("mark: UNKNOWN ahead of FINDINGS", UNKNOWN, x -> x.mark(-1, misfit, 9));
        }
        for (int deck = 0; deck <= 7; deck++) {
            int on = deck;
            meets("seek: ZERO, it is endless", ZERO, x -> x.seek(on, Worlds.LOUD_LIST, 0));
            meets("seek: ZERO, it is endless as a float", ZERO, x -> x.seek(on, Worlds.LOUD_LIST, 3));
            meets("seek: BEYOND, and no ZERO of it", BEYOND, x -> x.seek(on, Worlds.LOUD_LIST, 4));
            meets("mark: BEYOND", BEYOND, x -> x.mark(on, Worlds.LOUD_LIST, 4));
        }
    }

    private static void cut() {
        for (int no : NO_PLACES) {
            refused("cut: UNKNOWN", Due.FAR - 1, x -> x.cut(no, 0, 0));
            refused("cut: UNKNOWN ahead of OUTSIDE", Due.FAR - 1, x -> x.cut(no, 0, 5));
        }
        for (int to : new int[] {-1, 5, MIN, MAX}) {
            refused("cut: OUTSIDE", Due.FAR - 2, x -> x.cut(Worlds.REEL, 0, to));
            refused("cut: OUTSIDE ahead of CAST", Due.FAR - 2, x -> x.cut(Worlds.LIST, 0, to));
            refused("cut: OUTSIDE ahead of NOTHING", Due.FAR - 2, x -> x.cut(Worlds.NONE, 0, to));
            refused("cut: OUTSIDE ahead of BEYOND", Due.FAR - 2, x -> x.cut(Worlds.REEL, 3, to));
        }
        for (int to = 0; to <= 4; to++) {
            int kind = to;
            meets("cut: BEYOND, to " + kind, Due.FAR, BEYOND, x -> x.cut(Worlds.REEL, 3, kind));
            meets("cut: CAST, to " + kind, Due.FAR, CAST, x -> x.cut(Worlds.LIST, 0, kind));
            meets("cut: NOTHING, to " + kind, Due.FAR, NOTHING, x -> x.cut(Worlds.NONE, 0, kind));
        }
    }

    private static void stamp() {
        int[] places = {Worlds.REEL, Worlds.LIST, Worlds.TAG, Worlds.NONE, Worlds.NO_SAMPLES};
        for (int no : NO_PLACES) {
            for (int other : places) {
                refused("stamp: UNKNOWN the LIST, ahead of the REEL's", UNKNOWN, x -> x.stamp(other, no, 0, 5));
                refused("stamp: UNKNOWN the REEL, ahead of the LIST's", UNKNOWN, x -> x.stamp(no, other, 0, 5));
            }
            refused("stamp: UNKNOWN, both", UNKNOWN, x -> x.stamp(no, no, 0, 5));
        }
        // Of the REEL, whatever the LIST is.
        rowFindings("stamp of the REEL, a LIST", false, 0, (x, place, i) -> x.stamp(place, Worlds.LIST, i, 5));
        rowFindings("stamp of the REEL, a TAG", false, 0, (x, place, i) -> x.stamp(place, Worlds.TAG, i, 5));
        rowFindings("stamp of the REEL, NOTHING", false, 0, (x, place, i) -> x.stamp(place, Worlds.NONE, i, 5));
        rowFindings("stamp of the REEL, the same place", false, 0, (x, place, i) -> x.stamp(place, place, i, 5));
        // Then of the LIST.
        meets("stamp: CAST of the LIST", CAST, x -> x.stamp(Worlds.REEL, Worlds.TAG, 0, 5));
        meets("stamp: CAST of the LIST, a REEL", CAST, x -> x.stamp(Worlds.REEL, Worlds.STOPPING_REEL, 0, 5));
        meets("stamp: CAST of the LIST, the same place", CAST, x -> x.stamp(Worlds.REEL, Worlds.REEL, 2, 5));
        meets("stamp: CAST of the LIST, the same row", CAST, x -> x.stamp(Worlds.REEL, Worlds.SHARED_REEL, 2, 5));
        meets("stamp: CAST ahead of BEYOND of the LIST", CAST, x -> x.stamp(Worlds.REEL, Worlds.NO_SAMPLES, 2, 5));
        meets("stamp: NOTHING of the LIST", NOTHING, x -> x.stamp(Worlds.REEL, Worlds.NONE, 0, 5));
        meets("stamp: BEYOND of the LIST", BEYOND, x -> x.stamp(Worlds.REEL, Worlds.NO_CUES, 0, 5));
        meets("stamp: BEYOND of both", BEYOND, x -> x.stamp(Worlds.REEL, Worlds.LIST, 3, 5));
    }

    private static void ears() {
        for (int n : new int[] {6, MAX}) {
            refused("ears: OUTSIDE", OUTSIDE, x -> x.ears(true, n));
            refused("ears: OUTSIDE, any", OUTSIDE, x -> x.ears(false, n));
        }
        for (int n : new int[] {-1, MIN}) {
            meets("ears: SIZE", SIZE, x -> x.ears(true, n));
            meets("ears: SIZE, any", SIZE, x -> x.ears(false, n));
        }
        for (int sort : new int[] {-1, 2, MIN, MAX}) {
            refused("ear: OUTSIDE", OUTSIDE, x -> x.ear(0, sort, 0));
            refused("ear: OUTSIDE ahead of BEYOND or NOTHING", OUTSIDE, x -> x.ear(9, sort, 0));
            refused("ear: OUTSIDE ahead of BEYOND or NOTHING, below", OUTSIDE, x -> x.ear(-1, sort, 0));
        }
        for (int what : new int[] {-1, 9, MIN, MAX}) {
            refused("count: OUTSIDE", OUTSIDE, x -> x.count(what));
        }
    }

    private static void earsOf(int places, boolean sharp) {
        for (int i : new int[] {places, -1, MIN, MAX}) {
            meets("ear: BEYOND", BEYOND, x -> x.ear(i, 1, 0));
            meets(sharp ? "ear: BEYOND ahead of STORE" : "ear: BEYOND, a DULL one", BEYOND, x -> x.ear(i, 0, 0));
            meets("hear: BEYOND", Due.FAR, BEYOND, x -> x.hear(i));
        }
    }

    private static void sharpEars() {
        for (int i = 0; i < 3; i++) {
            int at = i;
            meets("ear: STORE at " + at, STORE, x -> x.ear(at, 0, 0));
        }
        meets("hear: NOTHING, no EAR there", Due.FAR, NOTHING, x -> x.hear(1));
    }

    private static void noEars() {
        for (int i : new int[] {0, -1, 5, MIN, MAX}) {
            meets("ear: NOTHING, no EARS", NOTHING, x -> x.ear(i, 0, 0));
            meets("ear: NOTHING, no EARS for a SHARP one", NOTHING, x -> x.ear(i, 1, 0));
            meets("hear: NOTHING, no EARS", Due.FAR, NOTHING, x -> x.hear(i));
        }
    }

    private static void newObject() {
        for (int place = 0; place <= 9; place++) {
            int at = place;
            meets("new: record", NOTHING, x -> x.record(at, 0, 5));
            meets("new: cue", NOTHING, x -> x.cue(at, 0, 5));
            meets("new: number", -2000000000, NOTHING, x -> x.number(at));
            refused("new: seek, no DECK", UNKNOWN, x -> x.seek(0, at, 0));
            refused("new: drop", 0, x -> x.drop(at));
            refused("new: share of NOTHING", 1, x -> x.share(at, 9 - at));
        }
        for (int deck = 0; deck <= 7; deck++) {
            int on = deck;
            refused("new: play, no DECK", UNKNOWN, x -> x.play(on, 1));
            refused("new: speed, no DECK", UNKNOWN, x -> x.speed(on, 1));
            refused("new: told, no DECK", 0, x -> x.told(on, 2));
            refused("new: frames, no DECK", Due.FAR - 1, x -> x.frames(on, 0));
            refused("new: ear, no DECK, ahead of NOTHING", UNKNOWN, x -> x.ear(0, 0, on));
        }
        refused("new: OUTSIDE", OUTSIDE, x -> x.deck(0, 1, 0));
        meets("new: hear", Due.FAR, NOTHING, x -> x.hear(0));
    }

    private static void open() {
        for (int no : new int[] {2, 7, 8, -1}) {
            refused("a DECK that has not come: speed", UNKNOWN, x -> x.speed(no, 1));
            refused("a DECK that has not come: play", UNKNOWN, x -> x.play(no, 0));
            refused("a DECK that has not come: told", 0, x -> x.told(no, 2));
            refused("a DECK that has not come: frames", Due.FAR - 1, x -> x.frames(no, 0));
            refused("a DECK that has not come: seek", UNKNOWN, x -> x.seek(no, Worlds.LIST, 0));
            refused("a DECK that has not come: mark", UNKNOWN, x -> x.mark(no, Worlds.LIST, 0));
            refused("a DECK that has not come: ear", UNKNOWN, x -> x.ear(0, 0, no));
        }
        refused("deck: OUTSIDE where there is room", OUTSIDE, x -> x.deck(0, 1, 0));
        refused("deck: UNKNOWN where there is room", UNKNOWN, x -> x.deck(10, 1, 1));
        meets("hear: NOTHING, no EAR at 2", Due.FAR, NOTHING, x -> x.hear(2));
    }

    private static void in(Supplier<TapeDecks> made) {
        world = made;
    }

    public static void main(String[] args) {
        in(Worlds::full);
        shelf();
        rows();
        at();
        left();
        number();
        decks();
        play();
        seekAndMark();
        cut();
        stamp();
        ears();
        earsOf(3, true);
        sharpEars();
        in(Worlds::open);
        shelf();
        rows();
        open();
        ears();
        earsOf(5, false);
        in(Worlds::earless);
        ears();
        noEars();
        in(Worlds::placeless);
        ears();
        earsOf(0, true);
        in(TapeDecks::new);
        newObject();
        Due.end();
    }
}
