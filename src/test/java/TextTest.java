import java.util.Random;

/** Promises 11 to 14: THE TAPE, and the TEXTS. */
final class TextTest {
    private static final Due DUE = new Due("TextTest");

    public static void main(String[] args) {
        feed();
        text();
        faults();
        values();
        untell();
        law();
        drawnTexts();
        DUE.end();
    }

    private static void feed() {
        NoonLaw x = new NoonLaw();
        DUE.is("feed(0, 0)", x.feed(0L, 0), Due.BEYOND);
        DUE.is("feed(0, 9)", x.feed(0L, 9), Due.BEYOND);
        DUE.is("feed(0, -1)", x.feed(0L, -1), Due.BEYOND);
        DUE.is("the lowest byte first: feed(.., 3)", x.feed(0x68312d67L, 3), 3);
        DUE.is("g-1: text(0)", x.text(0), 1);
        DUE.is("g-1 of 5", x.law(0, 5, 0, 0), 4);
        DUE.is("feed(.., 8)", x.feed(0x392b382b372b362bL, 8), 8);
        for (int i = 2; i <= 7; i++) {
            DUE.is("feed(.., 8)", x.feed(0L, 8), 8 * i);
        }
        DUE.is("feed(.., 5) of 4", x.feed(0L, 5), Due.FULL);
        DUE.is("BEYOND ahead of FULL", x.feed(0L, 9), Due.BEYOND);
        DUE.is("count(4)", x.count(4), 56);
        DUE.is("feed(.., 4)", x.feed(0L, 4), 60);
        DUE.is("feed(.., 1) of 0", x.feed(0L, 1), Due.FULL);
        DUE.is("text(0) of a full tape", x.text(0), -10);
        DUE.is("count(4)", x.count(4), 0);
        Due.feed(x, "12345678");
        DUE.is("words join", Due.feed(x, "+1"), 10);
    }

    private static void text() {
        NoonLaw x = new NoonLaw();
        Due.feed(x, "g+1");
        DUE.is("text(2)", x.text(2), Due.BEYOND);
        DUE.is("text(-1)", x.text(-1), Due.BEYOND);
        DUE.is("THE TAPE stays: count(4)", x.count(4), 3);
        DUE.is("text(0)", x.text(0), 1);
        DUE.is("count(4)", x.count(4), 0);
        DUE.is("law(0, 7, 0, 0)", x.law(0, 7, 0, 0), 8);
        DUE.is("a FAULT", Due.text(x, 0, "g+"), -12);
        DUE.is("THE TAPE is empty: count(4)", x.count(4), 0);
        DUE.is("the one ahead stays: law(0, 7, 0, 0)", x.law(0, 7, 0, 0), 8);
        DUE.is("in place of it", Due.text(x, 0, "g+2"), 1);
        DUE.is("law(0, 7, 0, 0)", x.law(0, 7, 0, 0), 9);
        DUE.is("a FAULT is no ERROR: told(1)", x.told(1), 2);
        DUE.is("an empty one", x.text(1), -10);
        DUE.is("uses stand apart: law(1, 0, 5, 0)", x.law(1, 0, 5, 0), 5);
    }

    private static void fault(int use, String signs, int place) {
        NoonLaw x = new NoonLaw();
        DUE.is("text(" + use + ") of " + signs, Due.text(x, use, signs), place < 0 ? 1 : -10 - place);
        DUE.is("untell(" + use + ") of " + signs, x.untell(use), place < 0 ? 1 : 0);
    }

    private static void faults() {
        String sixty = "1+2+3+4+5+6+7+8+9+0+1+2+3+4+5+6+7+8+9+0+1+2+3+4+5+6+7+8+9+12";
        fault(0, sixty, -1);
        fault(0, sixty.substring(0, 58) + "+", 58);
        fault(0, sixty.substring(0, 59) + "+", 60);
        fault(0, "g", -1);
        fault(0, "h+n", -1);
        fault(1, "k+m-d", -1);
        fault(0, "k", 0);
        fault(0, "m", 0);
        fault(0, "d", 0);
        fault(1, "g", 0);
        fault(1, "1+h", 2);
        fault(1, "n", 0);
        fault(0, "1234", -1);
        fault(0, "0000", -1);
        fault(0, "12345", 4);
        fault(0, "1g", 1);
        fault(0, "g1", 1);
        fault(0, " g", 0);
        fault(0, "g +1", 1);
        fault(0, "g<1", -1);
        fault(0, "g<1<2", 3);
        fault(0, "g<1=2", 3);
        fault(0, "g<1&h>2|n=3", -1);
        fault(0, "(g<1)<2", -1);
        fault(0, "g=(h=n)", -1);
        fault(0, "-1", 0);
        fault(0, "g--1", 2);
        fault(0, "g+", 2);
        fault(0, "g||h", 2);
        fault(0, "()", 1);
        fault(0, "(g", 2);
        fault(0, "g)", 1);
        fault(0, "(g))", 3);
        fault(0, "!", 1);
        fault(0, "g!h", 1);
        fault(0, "!!!!!g", -1);
        fault(0, "!!!!!!g", 5);
        fault(0, "(((((g)))))", -1);
        fault(0, "((((((g))))))", 5);
        fault(0, "!(!(!g))", -1);
        fault(0, "!(!(!(g)))", 5);
        fault(0, "!!!!!(g)", 5);
        fault(0, "((((!g+!h))))", -1);
        fault(0, "((((!g+!!h))))", 8);
        fault(0, "!!!!!g+!!!!!h", -1);
        fault(0, "(((((g)+(h)))))", -1);
        fault(0, "(((((g+(h))))))", 7);
        fault(0, "((((g)+(h))))+(((((n)))))", -1);
        fault(0, "g" + (char) 0, 1);
        fault(0, "g+" + (char) 231, 2);
    }

    private static void value(String signs, int g, int h, int n, int due) {
        NoonLaw x = new NoonLaw();
        DUE.is("text(0) of " + signs, Due.text(x, 0, signs), 1);
        DUE.is(signs + " of " + g + ", " + h + ", " + n, x.law(0, g, h, n), due);
    }

    private static void values() {
        value("g|h", 0, 0, 0, 0);
        value("g|h", 0, -3, 0, 1);
        value("g|h", 5, 0, 0, 1);
        value("g&h", 5, 7, 0, 1);
        value("g&h", 5, 0, 0, 0);
        value("g&h", 1, 2, 0, 1);
        value("g<h", 1, 2, 0, 1);
        value("g<h", 2, 2, 0, 0);
        value("g>h", 2, 1, 0, 1);
        value("g>h", 2, 2, 0, 0);
        value("g=h", 2, 2, 0, 1);
        value("g=h", 2, 1, 0, 0);
        value("!g", 0, 0, 0, 1);
        value("!g", 9, 0, 0, 0);
        value("!!g", 9, 0, 0, 1);
        value("g-h-n", 20, 3, 4, 13);
        value("g-(h-n)", 20, 3, 4, 21);
        value("g+h*n", 1, 2, 3, 7);
        value("(g+h)*n", 1, 2, 3, 9);
        value("g*h/n", 7, 5, 4, 8);
        value("g/h*n", 7, 5, 4, 4);
        value("g/h", 7, 0, 0, 0);
        value("g%h", 7, 0, 0, 0);
        value("g%h+9", -7, 3, 0, 8);
        value("g/h+9", -7, 2, 0, 6);
        value("g/h=g", Integer.MIN_VALUE, -1, 0, 1);
        value("g%h+5", Integer.MIN_VALUE, -1, 0, 5);
        value("g+1=h", Integer.MAX_VALUE, Integer.MIN_VALUE, 0, 1);
        value("g-1=h", Integer.MIN_VALUE, Integer.MAX_VALUE, 0, 1);
        value("0-g=g", Integer.MIN_VALUE, 0, 0, 1);
        value("g*3=h", Integer.MAX_VALUE, Integer.MAX_VALUE - 2, 0, 1);
        value("g<h", Integer.MIN_VALUE, Integer.MAX_VALUE, 0, 1);
        value("g>h", Integer.MIN_VALUE, Integer.MAX_VALUE, 0, 0);
        value("g>h", Integer.MAX_VALUE, Integer.MIN_VALUE, 0, 1);
        value("5/(g-g)", 3, 0, 0, 0);
        value("5%(g-g)", 3, 0, 0, 0);
        value("1/0|1", 0, 0, 0, 1);
        value("0&1/0", 0, 0, 0, 0);
        value("g*g", 65536, 0, 0, 0);
        value("1|0&0", 0, 0, 0, 1);
        value("(1|0)&0", 0, 0, 0, 0);
        value("(g|h)*7", 0, 2, 0, 7);
        value("(g&h)+5", 1, 2, 0, 6);
        value("!(g=h)", 1, 2, 0, 1);
        value("(g<h)<2", 1, 2, 0, 1);
        value("!!!!!g", 0, 0, 0, 1);
        value("(((((g+1)))))*2", 4, 0, 0, 10);
        value("!1" + "+1".repeat(29), 0, 0, 0, 29);
        value("9-(1" + "+0".repeat(27) + ")", 0, 0, 0, 8);
        value("0-" + "1*".repeat(28) + "g", -6, 0, 0, 6);
        value("1+2=3", 0, 0, 0, 1);
        value("2<3&4", 0, 0, 0, 1);
        value("!g+4", 0, 0, 0, 5);
        value("!g*4", 3, 0, 0, 0);
        value("g", 3, 0, 0, 3);
        value("h", 3, 4, 5, 4);
        value("n", 3, 4, 5, 5);
        value("0099", 0, 0, 0, 99);
        value("9999/101", 0, 0, 0, 99);
        value("99", 0, 0, 0, 99);
        value("100", 0, 0, 0, 99);
        value("9999", 0, 0, 0, 99);
        value("9999*9999*9999<0", 0, 0, 0, 1);
        value("0", 0, 0, 0, 0);
        value("0-1", 0, 0, 0, 0);
    }

    private static void untell() {
        NoonLaw x = new NoonLaw();
        Due.text(x, 0, "1");
        Due.text(x, 1, "2");
        DUE.is("untell(-1)", x.untell(-1), Due.BEYOND);
        DUE.is("untell(2)", x.untell(2), Due.BEYOND);
        DUE.is("untell(0)", x.untell(0), 1);
        DUE.is("untell(0) again", x.untell(0), 0);
        DUE.is("law(0, 6, 0, 0)", x.law(0, 6, 0, 0), 6);
        DUE.is("the other stays: law(1, 0, 9, 0)", x.law(1, 0, 9, 0), 2);
        DUE.is("untell(1)", x.untell(1), 1);
        DUE.is("law(1, 0, 9, 0)", x.law(1, 0, 9, 0), 9);
    }

    private static void law() {
        NoonLaw x = new NoonLaw();
        DUE.is("law(-1, ..)", x.law(-1, 0, 0, 0), Due.BEYOND);
        DUE.is("law(2, ..)", x.law(2, 0, 0, 0), Due.BEYOND);
        DUE.is("held without a TEXT: law(0, 100, ..)", x.law(0, 100, 0, 0), 99);
        DUE.is("held without a TEXT: law(0, -1, ..)", x.law(0, -1, 5, 5), 0);
        DUE.is("law(0, 42, ..)", x.law(0, 42, 5, 5), 42);
        DUE.is("m without a TEXT: law(1, 3, 500, 4)", x.law(1, 3, 500, 4), 500);
        DUE.is("m, no ERROR: law(1, 3, LOW - 3, 4)", x.law(1, 3, Due.STATE, 4), Due.STATE);
        DUE.is("told(3)", x.told(3), 0);
        Due.text(x, 1, "k*100+m*10+d");
        DUE.is("law(1, 0, 4, 2)", x.law(1, 0, 4, 2), 42);
        DUE.is("law(1, 1, 0, 0)", x.law(1, 1, 0, 0), 99);
        DUE.is("law(1, 0, 0, -99)", x.law(1, 0, 0, -99), -99);
        DUE.is("law(1, 0, 0, -100)", x.law(1, 0, 0, -100), -99);
        DUE.is("law(1, 0, -5, 1)", x.law(1, 0, -5, 1), -49);
    }

    /** Texts by the grammar, some of them with a sign that doesn't belong, against the model. */
    private static void drawnTexts() {
        Random random = new Random(5);
        for (int i = 0; i < 8000; i++) {
            int use = random.nextInt(2);
            StringBuilder b = new StringBuilder();
            grow(b, random, use == 0 ? "ghn" : "kmd", 4);
            if (random.nextInt(3) == 0) {
                String signs = "|&<=>+-*/%!()0gk ";
                b.insert(random.nextInt(b.length() + 1), signs.charAt(random.nextInt(signs.length())));
            }
            b.setLength(Math.min(60, b.length()));
            NoonLaw x = new NoonLaw();
            PlainModel model = new PlainModel();
            for (int j = 0; j < b.length(); j++) {
                x.feed(b.charAt(j), 1);
                model.call("feed", new long[] {b.charAt(j), 1});
            }
            DUE.is(b.toString(), x.text(use), model.call("text", new long[] {use}));
            for (int j = 0; j < 4; j++) {
                int[] v = {draw(random), draw(random), draw(random)};
                DUE.is(b + " of " + v[0] + ", " + v[1] + ", " + v[2], x.law(use, v[0], v[1], v[2]),
                    model.call("law", new long[] {use, v[0], v[1], v[2]}));
            }
        }
    }

    private static int draw(Random random) {
        return random.nextInt(3) == 0 ? random.nextInt() : random.nextInt(21) - 10;
    }

    private static void grow(StringBuilder b, Random random, String names, int deep) {
        int kind = random.nextInt(deep <= 0 ? 2 : 8);
        if (kind == 0) {
            b.append(random.nextInt(random.nextInt(3) == 0 ? 10000 : 12));
        } else if (kind == 1) {
            b.append(names.charAt(random.nextInt(3)));
        } else if (kind == 2) {
            b.append('!');
            grow(b, random, names, 0);
        } else if (kind == 3) {
            b.append(random.nextBoolean() ? "(" : "!(");
            grow(b, random, names, deep - 1);
            b.append(')');
        } else {
            grow(b, random, names, deep - 1);
            b.append("|&<=>+-*/%".charAt(random.nextInt(10)));
            grow(b, random, names, deep - 1);
        }
    }
}
