import java.util.Random;

/** Runs of 512 drawn calls, each answer held against PlainModel's. */
final class ModelTest {
    private static final int RUNS = 400;
    private static final String[] CALLS = {
        "dream", "dream", "dream", "dreamIs", "dreamIs", "become", "as", "forgets", "person", "personIs", "personIs",
        "takesTo", "clock", "clock", "feed", "feed", "feed", "text", "untell", "law", "law", "hours", "loose", "seed", "rule",
        "rule", "now", "now", "then", "first", "siestas", "best", "fewest", "fewest", "odds", "fits", "fits", "voice",
        "voice", "body", "body", "sheet", "put", "put", "put", "move", "move", "wonts", "judge", "judge", "image",
        "restore", "tell", "tell", "check", "count", "told"};
    private static final int[] WILD = {-1, -2, Integer.MIN_VALUE, Integer.MAX_VALUE, -1000000003, 25, 70, 100, 1024, 10000};

    private final Random random;
    private final NoonLaw law = new NoonLaw();
    private final PlainModel model = new PlainModel();

    private ModelTest(long seed) {
        random = new Random(seed);
    }

    public static void main(String[] args) {
        int runs = args.length > 0 ? Integer.parseInt(args[0]) : RUNS;
        Due due = new Due("ModelTest");
        for (int run = 0; run < runs; run++) {
            new ModelTest(run).run(due, run);
        }
        due.end();
    }

    private void run(Due due, int run) {
        for (int i = 0; i < 512; i++) {
            String name = CALLS[random.nextInt(CALLS.length)];
            if (name.equals("restore") && random.nextInt(8) != 0) {
                // what an old image takes back soon would leave a run with little in it
                continue;
            }
            long[] a = arguments(name);
            int want = model.call(name, a);
            int got = Calls.of(law, name, a);
            if (got != want) {
                due.is("run " + run + ", call " + i + ", " + name + java.util.Arrays.toString(a), got, want);
                return;
            }
        }
    }

    private int some(int least, int most) {
        if (random.nextInt(40) == 0) {
            return random.nextBoolean() ? WILD[random.nextInt(WILD.length)] : most + 1;
        }
        if (random.nextInt(10) == 0) {
            return random.nextBoolean() ? least : most;
        }
        return least + random.nextInt(most - least + 1);
    }

    private int any() {
        return random.nextInt(4) == 0 ? random.nextInt() : random.nextInt(40) - 20;
    }

    private int matterAndSide() {
        return random.nextInt(30) == 0 ? some(0, 99) : 10 * some(0, random.nextInt(4) == 0 ? 9 : 2) + random.nextInt(2);
    }

    private int hour() {
        return random.nextInt(12) == 0 ? some(0, 9999) : some(0, 24 * 6);
    }

    private long[] arguments(String name) {
        return switch (name) {
            case "dream" -> new long[] {some(0, 69), matterAndSide(), some(0, random.nextInt(6) == 0 ? 99 : 5)};
            case "dreamIs" -> new long[] {some(0, 8), some(0, 7)};
            case "become" -> new long[] {some(0, 8), some(0, 69)};
            case "as" -> new long[] {some(0, 8), some(0, 6)};
            case "forgets" -> new long[] {some(0, 8), some(0, 1)};
            case "person" -> new long[] {some(0, 1023)};
            case "personIs" -> new long[] {some(0, 5), some(0, 3)};
            case "takesTo" -> new long[] {some(0, 5), some(0, 1023)};
            case "clock" -> random.nextInt(4) == 0 ? new long[] {some(0, 1), some(13, 24)} : new long[] {0, hour()};
            case "feed" -> feeding();
            case "text", "untell" -> new long[] {some(0, 1)};
            case "law" -> new long[] {some(0, 1), any(), any(), any()};
            case "hours" -> new long[] {some(1, random.nextInt(3) == 0 ? 240 : 20)};
            case "loose" -> new long[] {some(1, 48)};
            case "seed" -> new long[] {any()};
            case "rule" -> new long[] {some(0, 3), some(0, 240)};
            case "now" -> new long[] {some(0, 3)};
            case "then" -> new long[] {some(0, 5), some(0, 240)};
            case "first" -> new long[] {some(0, 3), some(-1, 1)};
            case "siestas" -> new long[] {some(0, 240)};
            case "best" -> new long[] {some(0, 240), some(0, 1)};
            case "fewest" -> new long[] {some(0, 3), some(1, 240), some(0, 1)};
            case "odds" -> new long[] {some(0, 3), some(-1, 1), some(0, 1)};
            case "voice" -> new long[] {some(0, 8), some(0, 3), any()};
            case "body" -> new long[] {some(0, 6)};
            case "sheet" -> new long[] {some(0, 3), 8 * random.nextInt(5), some(-1, random.nextInt(2) == 0 ? 3 : 24)};
            case "put" -> new long[] {some(0, 3), some(0, 3), random.nextInt(3) == 0 ? some(0, 1023) : some(-1, 1)};
            case "move" -> new long[] {some(0, 3), some(0, 4), some(0, 3), some(0, 4), some(0, 4)};
            case "fits", "wonts", "judge" -> new long[] {some(0, 3)};
            case "tell" -> new long[] {random.nextInt(3) == 0 ? 0 : some(0, 99)};
            case "count" -> new long[] {some(0, 7)};
            case "told" -> new long[] {some(1, 6)};
            default -> new long[0];
        };
    }

    /** Words of which texts are mostly whole: a text is read behind one or two of them. */
    private long[] feeding() {
        String names = random.nextBoolean() ? "ghn" : "kmd";
        String[] parts = {"x", "xOx", "(xOx)Ox", "!x", "xO!(x)", "Ox", "O9", "12345", "x<x", "(x", ")", "!!x", "O((x))", "7"};
        StringBuilder b = new StringBuilder();
        for (char c : parts[random.nextInt(parts.length)].toCharArray()) {
            if (c == 'x') {
                c = random.nextInt(3) == 0 ? (char) ('0' + random.nextInt(10)) : names.charAt(random.nextInt(3));
            }
            b.append(c == 'O' ? "|&<=>+-*/%".charAt(random.nextInt(10)) : c);
        }
        int n = Math.min(8, b.length());
        long word = random.nextInt(8) == 0 ? random.nextLong() << 56 : 0;
        for (int i = n - 1; i >= 0; i--) {
            word = word << 8 | b.charAt(i);
        }
        return new long[] {word, random.nextInt(30) == 0 ? some(0, 9) : n};
    }
}
