import java.util.Arrays;

/** An object with as much in it as it holds, and a look at all that can be seen of it. */
final class World {
    static final int DREAMS = 9;
    static final int PEOPLE = 6;
    static final int HOUR = 9997;
    static final int IMAGE_HOUR = 5;
    /** Of these the DREAM's number is its m, so that one that parts is PARTED. */
    static final int PARTED_DREAM = 4;
    private static final int[][] DREAMED = {{30, 1, 0}, {31, 10, 0}, {30, 21, 0}, {30, 20, 0}, {14, 31, 0}, {49, 41, 9},
        {59, 50, 0}, {69, 61, 0}, {29, 90, 99}};
    private static final int[] WONTS = {1, 2, 4, 1023, 0, 7};

    private World() {
    }

    /**
     * Nine DREAMS, six PEOPLE who are FINED, both TEXTS, 57 bytes on THE TAPE, 24 numbers that wait, a TRACE of 3;
     * SHEET 0 has 4 numbers and SHEET 1 has 3, of 8 bits, SHEET 2 has 11 of 16 bits, SHEET 3 is missing; all that are
     * of a MATTER tell what it is UNDER now: 0 is bidden, 1 banned, the rest FREE.
     */
    static NoonLaw full(boolean withImage) {
        NoonLaw x = new NoonLaw();
        x.clock(1, 21);
        x.seed(-77);
        for (int[] d : DREAMED) {
            x.dream(d[0], d[1], d[2]);
        }
        x.forgets(8, 1);
        for (int wont : WONTS) {
            x.person(wont);
        }
        Due.text(x, 0, "g+1");
        Due.text(x, 1, "m+1");
        x.clock(0, HOUR - 7);
        x.hours(7);
        Due.feed(x, "1" + "+1".repeat(28));
        for (int i = 0; i < 24; i++) {
            x.tell(i < PEOPLE ? x.personIs(i, 1) : 0);
        }
        int[] rules = {1, 0, -1, -1, -1, -1, -1, -1, -1, -1, -1};
        int[][] sheets = {{8, 4}, {8, 3}, {16, 11}};
        for (int sheet = 0; sheet < sheets.length; sheet++) {
            x.sheet(sheet, sheets[sheet][0], sheets[sheet][1]);
            for (int i = 0; i < sheets[sheet][1]; i++) {
                x.put(sheet, i, rules[i]);
            }
        }
        x.voice(5, 0, 3);
        if (withImage) {
            x.clock(0, IMAGE_HOUR);
            x.image();
            x.clock(0, HOUR);
        }
        return x;
    }

    /** All that calls tell which change nothing, but for what told() tells. */
    static String look(NoonLaw x) {
        StringBuilder seen = new StringBuilder();
        for (int what = 0; what < 8; what++) {
            seen.append(" count ").append(x.count(what));
        }
        for (int i = 0; i < x.count(0); i++) {
            seen.append("\ndream");
            for (int what = 0; what < 8; what++) {
                seen.append(' ').append(x.dreamIs(i, what));
            }
        }
        for (int i = 0; i < x.count(1); i++) {
            seen.append("\nperson");
            for (int what = 0; what < 4; what++) {
                seen.append(' ').append(x.personIs(i, what));
            }
        }
        seen.append("\nlaws ").append(x.law(0, 7, 8, 9)).append(' ').append(x.law(1, 7, 8, 9));
        seen.append("\nright ").append(x.judge(0)).append(' ').append(x.judge(1)).append(' ').append(x.judge(2));
        seen.append("\nbodies");
        for (int i = 0; i < x.count(6); i++) {
            seen.append(' ').append(x.body(i));
        }
        return seen.toString();
    }

    /** What told() tells of each ERROR, from LOW - 1 on. */
    static int[] told(NoonLaw x) {
        int[] told = new int[6];
        Arrays.setAll(told, k -> x.told(k + 1));
        return told;
    }

    /** What only calls tell that change it: THE TAPE, what waits, SHEETS, the IMAGE. */
    static void lastLook(Due due, String behind, NoonLaw x, boolean withImage) {
        due.is(behind + ": what waits", x.check(), PEOPLE + 1);
        due.is(behind + ": THE TAPE", x.text(0), 1);
        due.is(behind + ": THE TAPE's law", x.law(0, 0, 0, 0), 29);
        due.is(behind + ": SHEET 2", x.wonts(2), 2);
        due.is(behind + ": SHEET 3", x.judge(3), Due.NONE);
        due.is(behind + ": the IMAGE", x.restore(), withImage ? IMAGE_HOUR : Due.NONE);
        due.is(behind + ": how often", x.image(), withImage ? 2 : 1);
    }
}
