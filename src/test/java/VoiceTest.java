/** Promises 27 and 28: VOICES, and THE TRACE. */
final class VoiceTest {
    private static final Due DUE = new Due("VoiceTest");
    /** Of a DREAM of each KIND, whose number is its KIND and whose m is 2 more: what it gives for 7. */
    private static final int[][] VOICES = {
        {7, 14, 12, 3},
        {4, 8, 5, -1},
        {9, -18, -22, 3},
        {10, 20, 7, 3},
        {21, 42, 32, 9},
        {12, -26, -33, 3},
        {9, 26, 18, 3}};
    private static final String[][] TRACES = {
        {"10", "11 10", "12 11 10", "13"},
        {"20 10", "11 20 10", "12 11 20 10", "21 13 11 20 10"},
        {"10", "30 11 10", "12 30 11 10", "13"},
        {"10", "11 10", "40 12 11 10", "13"},
        {"50 20 10", "11 50 20 10", "51 12 11 50 20 10", "21 13 11 50 20 10"},
        {"10", "60 30 11 10", "12 60 30 11 10", "13"},
        {"70", "71 11 70", "12 71 11 70", "13"}};

    public static void main(String[] args) {
        voices();
        wrong();
        parted();
        wraps();
        DUE.end();
    }

    private static void trace(NoonLaw x, String call, String due) {
        StringBuilder found = new StringBuilder();
        for (int i = 0; i < x.count(6); i++) {
            found.append(i > 0 ? " " : "").append(x.body(i));
        }
        if (!due.contentEquals(found)) {
            DUE.is(call + ": THE TRACE " + found + ", due " + due, 0, 1);
        }
    }

    private static void voices() {
        NoonLaw x = new NoonLaw();
        for (int kind = 0; kind < 7; kind++) {
            x.dream(10 * kind + kind + 2, 0, 0);
        }
        for (int kind = 0; kind < 7; kind++) {
            for (int voice = 0; voice < 4; voice++) {
                String call = "voice(" + kind + ", " + voice + ", 7)";
                DUE.is(call, x.voice(kind, voice, 7), VOICES[kind][voice]);
                trace(x, call, TRACES[kind][voice]);
            }
        }
        x.become(0, 44);
        DUE.is("as another KIND: voice(0, 0, 7)", x.voice(0, 0, 7), 9);
        trace(x, "as another KIND", "50 20 10");
        DUE.is("body(-1)", x.body(-1), Due.NONE);
        DUE.is("body(3)", x.body(3), Due.NONE);
        DUE.is("body(2)", x.body(2), 10);
        DUE.is("told(2)", x.told(2), 2);
    }

    private static void wrong() {
        NoonLaw x = new NoonLaw();
        DUE.is("voice(0, 0, 0)", x.voice(0, 0, 0), Due.BEYOND);
        x.dream(5, 0, 0);
        x.voice(0, 1, 0);
        DUE.is("voice(0, 4, 0)", x.voice(0, 4, 0), Due.BEYOND);
        DUE.is("voice(0, -1, 0)", x.voice(0, -1, 0), Due.BEYOND);
        DUE.is("voice(-1, 0, 0)", x.voice(-1, 0, 0), Due.BEYOND);
        DUE.is("voice(1, 0, 0)", x.voice(1, 0, 0), Due.BEYOND);
        trace(x, "behind BEYOND", "11 10");
    }

    private static void parted() {
        NoonLaw x = new NoonLaw();
        for (int i = 0; i < 3; i++) {
            x.dream(i, 0, 0);
        }
        DUE.is("voice(0, 3, 5)", x.voice(0, 3, 5), Due.PARTED);
        trace(x, "PARTED", "13");
        x.become(1, 11);
        DUE.is("voice(1, 3, 5)", x.voice(1, 3, 5), Due.PARTED);
        trace(x, "PARTED above", "21 13");
        x.become(2, 42);
        DUE.is("voice(2, 3, 5)", x.voice(2, 3, 5), Due.PARTED);
        DUE.is("told(6)", x.told(6), 3);
        x.become(0, 2);
        DUE.is("not PARTED any more: voice(0, 3, -5)", x.voice(0, 3, -5), -2);
        DUE.is("another voice: voice(1, 0, 5)", x.voice(1, 0, 5), 2);
    }

    /** Of the DREAM 0, of a KIND and m. */
    private static void wrap(int kind, int m, int voice, int x, int due) {
        NoonLaw law = new NoonLaw();
        law.dream(10 * kind + m, 0, 0);
        DUE.is("a " + kind + " with " + m + ": voice(0, " + voice + ", " + x + ")", law.voice(0, voice, x), due);
    }

    private static void wraps() {
        NoonLaw x = new NoonLaw();
        x.dream(0, 0, 0);
        x.dream(0, 0, 0);
        DUE.is("voice(1, 0, MAX)", x.voice(1, 0, Integer.MAX_VALUE), Integer.MIN_VALUE);
        DUE.is("voice(0, 1, 2 to the 30th)", x.voice(0, 1, 1 << 30), Integer.MIN_VALUE);
        DUE.is("MIN by -1: voice(1, 3, MIN)", x.voice(1, 3, Integer.MIN_VALUE), Integer.MIN_VALUE);
        DUE.is("any number is no ERROR: voice(0, 0, LOW - 2)", x.voice(0, 0, Due.NONE), Due.NONE);
        DUE.is("told(2)", x.told(2), 0);
        wrap(0, 3, 3, Integer.MAX_VALUE, 715827882);
        wrap(0, 5, 2, 1 << 30, Integer.MAX_VALUE - 4);
        wrap(1, 5, 0, Integer.MIN_VALUE, Integer.MAX_VALUE - 3);
        wrap(2, 5, 1, 1 << 30, Integer.MIN_VALUE);
        wrap(4, 5, 0, 1 << 30, (1 << 30) * 3 - 12);
        wrap(5, 5, 1, Integer.MAX_VALUE, 0);
        x.become(1, 10);
        DUE.is("MIN by -1, and sighs(1): voice(1, 3, MIN)", x.voice(1, 3, Integer.MIN_VALUE), Integer.MAX_VALUE - 3);
        x.become(0, 30);
        DUE.is("-7 by 2 is cut: voice(0, 2, -7)", x.voice(0, 2, -7), -6);
    }
}
