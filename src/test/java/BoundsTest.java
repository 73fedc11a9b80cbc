import java.util.Arrays;

/**
 * The bounds of every argument (too small, the least, the most, too large), every ERROR that a full object or a missing
 * thing gives, and the order in which they are asked; behind each, that nothing has changed but what told() tells.
 */
final class BoundsTest {
    private static final Due DUE = new Due("BoundsTest");

    /** Of a call the argument at a place, with what is answered below its least and above its most. */
    private record Bound(String call, int place, int least, int most, int below, int above, long... others) {
        static Bound of(String call, int place, int least, int most, long... others) {
            return new Bound(call, place, least, most, Due.BEYOND, Due.BEYOND, others);
        }

        long[] with(int v) {
            long[] a = others.clone();
            a[place] = v;
            return a;
        }
    }

    private static final Bound[] BOUNDS = {
        Bound.of("dream", 0, 0, 69, 0, 0, 0), Bound.of("dream", 1, 0, 91, 0, 0, 0), Bound.of("dream", 2, 0, 99, 0, 0, 0),
        Bound.of("dreamIs", 0, 0, 8, 0, 0), Bound.of("dreamIs", 1, 0, 7, 0, 0),
        Bound.of("become", 0, 0, 8, 0, 0), Bound.of("become", 1, 0, 69, 0, 0),
        Bound.of("as", 0, 0, 8, 0, 0), Bound.of("as", 1, 0, 6, 0, 0),
        Bound.of("forgets", 0, 0, 8, 0, 0), Bound.of("forgets", 1, 0, 1, 0, 0),
        Bound.of("person", 0, 0, 1023, 0),
        Bound.of("personIs", 0, 0, 5, 0, 0), Bound.of("personIs", 1, 0, 3, 0, 0),
        Bound.of("takesTo", 0, 0, 5, 0, 0), Bound.of("takesTo", 1, 0, 1023, 0, 0),
        Bound.of("clock", 0, 0, 1, 0, 20), Bound.of("clock", 1, 0, 9999, 0, 0), Bound.of("clock", 1, 13, 24, 1, 20),
        Bound.of("feed", 1, 1, 8, 0, 1),
        Bound.of("text", 0, 0, 1, 0), Bound.of("untell", 0, 0, 1, 0), Bound.of("law", 0, 0, 1, 0, 1, 2, 3),
        Bound.of("hours", 0, 1, 240, 1), Bound.of("loose", 0, 1, 48, 1),
        Bound.of("rule", 0, 0, 9, 0, 0), Bound.of("rule", 1, 0, 240, 0, 0),
        Bound.of("now", 0, 0, 3, 0),
        Bound.of("then", 0, 0, 5, 0, 0), Bound.of("then", 1, 0, 240, 0, 0),
        Bound.of("first", 0, 0, 9, 0, 0), Bound.of("first", 1, -1, 1, 0, 0),
        Bound.of("siestas", 0, 0, 240, 0),
        Bound.of("best", 0, 0, 240, 0, 0), Bound.of("best", 1, 0, 1, 0, 0),
        Bound.of("fewest", 0, 0, 9, 0, 1, 0), Bound.of("fewest", 1, 1, 240, 0, 1, 0), Bound.of("fewest", 2, 0, 1, 0, 1, 0),
        Bound.of("odds", 0, 0, 9, 0, 0, 0), Bound.of("odds", 1, -1, 1, 0, 0, 0), Bound.of("odds", 2, 0, 1, 0, 0, 0),
        Bound.of("fits", 0, 0, 3, 0),
        Bound.of("voice", 0, 0, 8, 0, 0, 0), Bound.of("voice", 1, 0, 3, 0, 0, 0),
        new Bound("body", 0, 0, 2, Due.NONE, Due.NONE, 0),
        Bound.of("sheet", 0, 0, 3, 0, 8, 1), new Bound("sheet", 2, 0, 24, Due.STATE, Due.BEYOND, 0, 8, 0),
        Bound.of("put", 0, 0, 3, 0, 0, 0), Bound.of("put", 1, 0, 3, 0, 0, 0),
        Bound.of("move", 0, 0, 3, 0, 0, 1, 0, 2), Bound.of("move", 1, 0, 2, 0, 0, 1, 0, 2),
        Bound.of("move", 2, 0, 3, 0, 0, 1, 0, 2), Bound.of("move", 3, 0, 1, 0, 0, 1, 0, 2),
        Bound.of("move", 4, 0, 3, 0, 0, 1, 0, 0),
        Bound.of("wonts", 0, 0, 3, 0), Bound.of("judge", 0, 0, 3, 0),
        Bound.of("count", 0, 0, 7, 0), Bound.of("told", 0, 1, 6, 1)};

    public static void main(String[] args) {
        world();
        for (Bound b : BOUNDS) {
            bound(b);
        }
        matterAndSide();
        bits();
        full();
        state();
        none();
        kind();
        parted();
        order();
        DUE.end();
    }

    /** The object that the rest leans on is as full as it says. */
    private static void world() {
        NoonLaw x = World.full(true);
        int[] counts = {9, 6, World.HOUR, 21, 57, 24, 3, -77};
        for (int what = 0; what < counts.length; what++) {
            DUE.is("the world: count(" + what + ")", x.count(what), counts[what]);
        }
        DUE.is("the world: now(0)", x.now(0), 0b1111);
        int[] right = {4, 3, 10};
        for (int sheet = 0; sheet < right.length; sheet++) {
            DUE.is("the world: judge(" + sheet + ")", x.judge(sheet), right[sheet]);
        }
        World.lastLook(DUE, "the world", x, true);
    }

    private static void bound(Bound b) {
        for (int v : new int[] {b.least(), b.most()}) {
            int answer = Calls.of(World.full(true), b.call(), b.with(v));
            DUE.is(b.call() + Arrays.toString(b.with(v)) + " is within", answer == b.above() || answer == b.below() ? 1 : 0, 0);
        }
        refused(b.below(), b.call(), b.with(b.least() - 1));
        refused(b.below(), b.call(), b.with(Integer.MIN_VALUE));
        refused(b.above(), b.call(), b.with(b.most() + 1));
        refused(b.above(), b.call(), b.with(Integer.MAX_VALUE));
    }

    private static void refused(int error, String call, long... a) {
        refused(true, error, call, a);
    }

    /** The call answers an ERROR, it is told once, and nothing else has changed. */
    private static void refused(boolean withImage, int error, String call, long... a) {
        String what = call + Arrays.toString(a);
        NoonLaw x = World.full(withImage);
        String seen = World.look(x);
        int[] told = World.told(x);
        DUE.is(what, Calls.of(x, call, a), error);
        told[-1000000001 - error]++;
        DUE.is(what + ": told() tells it", Arrays.equals(told, World.told(x)) ? 1 : 0, 1);
        DUE.is(what + ": nothing else has changed", seen.equals(World.look(x)) ? 1 : 0, 1);
        World.lastLook(DUE, what, x, withImage);
    }

    /** A MATTER's side is 0 or 1: the last digit is no more. */
    private static void matterAndSide() {
        for (int mb = -20; mb < 120; mb++) {
            boolean due = mb >= 0 && mb < 100 && mb % 10 <= 1;
            DUE.is("dream(0, " + mb + ", 0)", new NoonLaw().dream(0, mb, 0), due ? 0 : Due.BEYOND);
        }
    }

    private static void bits() {
        for (int bits = -40; bits < 80; bits++) {
            boolean due = bits == 0 || bits == 8 || bits == 16 || bits == 32;
            DUE.is("sheet(0, " + bits + ", 1)", new NoonLaw().sheet(0, bits, 1), due ? 1 : Due.BEYOND);
        }
        refused(Due.BEYOND, "sheet", 0, 64, 1);
        refused(Due.BEYOND, "sheet", 0, -8, 1);
    }

    private static void full() {
        refused(Due.FULL, "dream", 0, 0, 0);
        refused(Due.FULL, "person", 0);
        refused(Due.FULL, "feed", '+', 4);
        refused(Due.FULL, "feed", '+', 8);
        refused(Due.FULL, "tell", 0);
        DUE.is("57 and 3 are 60: feed(.., 3)", World.full(false).feed(0L, 3), 60);
    }

    private static void state() {
        refused(Due.STATE, "hours", 3);
        refused(Due.STATE, "hours", 240);
        refused(Due.STATE, "loose", 3);
        refused(Due.STATE, "loose", 48);
        DUE.is("up to 9999: hours(2)", World.full(false).hours(2), 9999);
        DUE.is("up to 9999: loose(2)", World.full(false).loose(2), 9);
        DUE.is("n doesn't matter: sheet(0, 0, -1)", World.full(false).sheet(0, 0, -1), 1);
        DUE.is("n doesn't matter: sheet(0, 0, 25)", World.full(false).sheet(0, 0, 25), 1);
    }

    private static void none() {
        refused(false, Due.NONE, "restore");
        refused(Due.NONE, "first", 0, 0);
        refused(Due.NONE, "first", 1, 1);
        refused(Due.NONE, "fits", 3);
        refused(Due.NONE, "fits", 2);
        refused(Due.NONE, "put", 3, 0, 0);
        refused(Due.NONE, "move", 3, 0, 0, 0, 0);
        refused(Due.NONE, "move", 0, 0, 3, 0, 0);
        refused(Due.NONE, "wonts", 3);
        refused(Due.NONE, "judge", 3);
    }

    private static void kind() {
        refused(Due.KIND, "as", 0, 1);
        refused(Due.KIND, "as", 4, 4);
        refused(Due.KIND, "as", 5, 5);
        refused(Due.KIND, "move", 0, 0, 2, 0, 1);
        refused(Due.KIND, "move", 2, 0, 0, 0, 1);
    }

    /** Of THE TRACE behind it VoiceTest tells. */
    private static void parted() {
        NoonLaw x = World.full(true);
        x.voice(World.PARTED_DREAM, 3, 7);
        String seen = World.look(x);
        DUE.is("voice(4, 3, 7)", x.voice(World.PARTED_DREAM, 3, 7), Due.PARTED);
        DUE.is("told(6)", x.told(6), 2);
        DUE.is("PARTED: nothing else has changed", seen.equals(World.look(x)) ? 1 : 0, 1);
        World.lastLook(DUE, "PARTED", x, true);
    }

    /** Where two ERRORS could be told, the one that is asked first. BEYOND ahead of FULL and STATE is in BOUNDS. */
    private static void order() {
        refused(Due.NONE, "put", 3, -1, 0);
        refused(Due.NONE, "move", 3, -1, 0, 0, 0);
        refused(Due.NONE, "move", 0, -1, 3, 0, 0);
        refused(Due.NONE, "move", 3, 0, 2, 0, 0);
        refused(Due.BEYOND, "move", 4, 0, 3, 0, 0);
        refused(Due.BEYOND, "move", 3, 0, 4, 0, 0);
        refused(Due.BEYOND, "move", 3, 0, -1, 0, 0);
        refused(Due.KIND, "move", 0, -1, 2, 0, 0);
        refused(Due.KIND, "move", 0, 0, 2, -1, 0);
        refused(Due.KIND, "move", 0, 0, 2, 0, -1);
        refused(Due.KIND, "move", 0, 9, 2, 0, 0);
        refused(Due.BEYOND, "sheet", 4, 8, -1);
        refused(Due.BEYOND, "sheet", 0, 7, -1);
        refused(Due.BEYOND, "sheet", 4, 0, 0);
        refused(Due.BEYOND, "dreamIs", 9, 0);
        refused(Due.BEYOND, "as", 9, 1);
        refused(Due.BEYOND, "voice", World.PARTED_DREAM, 4, 0);
    }
}
