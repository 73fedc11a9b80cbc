/** Counts and prints the answers that are not the ones that are due. */
final class Due {
    static final int BEYOND = -1000000001;
    static final int NONE = -1000000002;
    static final int STATE = -1000000003;
    static final int FULL = -1000000004;
    static final int KIND = -1000000005;
    static final int PARTED = -1000000006;

    private final String test;
    private int wrong;

    Due(String test) {
        this.test = test;
    }

    void is(String call, long got, long want) {
        if (got != want) {
            wrong++;
            System.out.println(test + ": " + call + " answered " + got + ", due is " + want);
        }
    }

    void end() {
        if (wrong != 0) {
            System.exit(1);
        }
    }

    /** Feeds all signs of a TEXT: what the last feed() answered. */
    static int feed(NoonLaw x, String signs) {
        int answer = 0;
        for (int from = 0; from < signs.length(); from += 8) {
            int n = Math.min(8, signs.length() - from);
            long word = 0;
            for (int i = n - 1; i >= 0; i--) {
                word = word << 8 | signs.charAt(from + i) & 255;
            }
            answer = x.feed(word, n);
        }
        return answer;
    }

    static int text(NoonLaw x, int use, String signs) {
        feed(x, signs);
        return x.text(use);
    }
}
