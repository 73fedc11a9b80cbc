/** Promises 29 to 33: SHEETS. Numbers of a SHEET are read back through move() and wonts(). */
final class SheetTest {
    private static final Due DUE = new Due("SheetTest");

    public static void main(String[] args) {
        sheet();
        put();
        move();
        wholeSheet();
        moveErrors();
        wonts();
        judge();
        DUE.end();
    }

    /** Number i of a SHEET of 16 bits, if it is 0 to 1023; -1 else. */
    private static int number(NoonLaw x, int sheet, int i) {
        x.sheet(3, 16, 1);
        x.move(sheet, i, 3, 0, 1);
        return x.wonts(3) == 1 ? x.personIs(0, 0) : -1;
    }

    private static void row(NoonLaw x, int sheet, int... numbers) {
        x.sheet(sheet, 16, numbers.length);
        for (int i = 0; i < numbers.length; i++) {
            x.put(sheet, i, numbers[i]);
        }
    }

    private static void holds(NoonLaw x, String what, int sheet, int... due) {
        for (int i = 0; i < due.length; i++) {
            DUE.is(what + ": number " + i, number(x, sheet, i), due[i]);
        }
    }

    private static void sheet() {
        NoonLaw x = new NoonLaw();
        DUE.is("sheet(0, 8, 0)", x.sheet(0, 8, 0), 1);
        DUE.is("sheet(3, 16, 24)", x.sheet(3, 16, 24), 1);
        DUE.is("sheet(1, 32, 1)", x.sheet(1, 32, 1), 1);
        DUE.is("sheet(4, 8, 1)", x.sheet(4, 8, 1), Due.BEYOND);
        DUE.is("sheet(-1, 8, 1)", x.sheet(-1, 8, 1), Due.BEYOND);
        DUE.is("sheet(0, 7, 1)", x.sheet(0, 7, 1), Due.BEYOND);
        DUE.is("sheet(0, 64, 1)", x.sheet(0, 64, 1), Due.BEYOND);
        DUE.is("sheet(0, -8, 1)", x.sheet(0, -8, 1), Due.BEYOND);
        DUE.is("sheet(0, 8, 25)", x.sheet(0, 8, 25), Due.BEYOND);
        DUE.is("sheet(0, 8, -1)", x.sheet(0, 8, -1), Due.STATE);
        DUE.is("sheet(0, 8, MIN)", x.sheet(0, 8, Integer.MIN_VALUE), Due.STATE);
        DUE.is("bits ahead of n: sheet(0, 7, -1)", x.sheet(0, 7, -1), Due.BEYOND);
        DUE.is("the SHEET ahead of n: sheet(4, 8, -1)", x.sheet(4, 8, -1), Due.BEYOND);
        DUE.is("still empty: put(0, 0, 0)", x.put(0, 0, 0), Due.BEYOND);
        DUE.is("n doesn't matter: sheet(1, 0, -1)", x.sheet(1, 0, -1), 1);
        DUE.is("missing: put(1, 0, 0)", x.put(1, 0, 0), Due.NONE);
        DUE.is("n doesn't matter: sheet(1, 0, 25)", x.sheet(1, 0, 25), 1);
        DUE.is("sheet(4, 0, 0)", x.sheet(4, 0, 0), Due.BEYOND);
        x.person(0);
        row(x, 0, 5, 6);
        x.sheet(0, 16, 2);
        holds(x, "all 0 again", 0, 0, 0);
    }

    private static void put() {
        NoonLaw x = new NoonLaw();
        x.person(0);
        DUE.is("put(0, 0, 1)", x.put(0, 0, 1), Due.NONE);
        DUE.is("put(4, 0, 1)", x.put(4, 0, 1), Due.BEYOND);
        DUE.is("put(-1, 0, 1)", x.put(-1, 0, 1), Due.BEYOND);
        x.sheet(0, 8, 2);
        DUE.is("put(0, 2, 1)", x.put(0, 2, 1), Due.BEYOND);
        DUE.is("put(0, -1, 1)", x.put(0, -1, 1), Due.BEYOND);
        DUE.is("put(0, 1, 1)", x.put(0, 1, 1), 1);
        int[][] due = {{8, 127, 127}, {8, 128, -1}, {8, 256, 0}, {8, 257 + 512, 1}, {8, 200, -1},
            {16, 1023, 1023}, {16, 65536 + 9, 9}, {16, 65535, -1}, {32, 1023, 1023}, {32, 65536 + 9, -1}};
        for (int[] d : due) {
            x.sheet(1, d[0], 1);
            x.put(1, 0, d[1]);
            x.takesTo(0, 512);
            int took = x.wonts(1);
            DUE.is("put(1, 0, " + d[1] + ") of " + d[0] + " bits", took == 1 ? x.personIs(0, 0) : -1, d[2]);
        }
        x.sheet(1, 8, 1);
        x.put(1, 0, 255);
        DUE.is("its lowest bits are -1: judge(1)", x.judge(1), 1);
        x.sheet(1, 16, 1);
        x.put(1, 0, 65535);
        DUE.is("its lowest bits are -1: judge(1)", x.judge(1), 1);
        x.sheet(1, 32, 1);
        x.put(1, 0, 255);
        DUE.is("255 in 32 bits: judge(1)", x.judge(1), 0);
    }

    private static void move() {
        NoonLaw x = new NoonLaw();
        x.person(0);
        row(x, 0, 1, 2, 3, 4, 5);
        row(x, 1, 11, 12, 13);
        DUE.is("move(0, 1, 1, 0, 2)", x.move(0, 1, 1, 0, 2), 2);
        holds(x, "to another", 1, 2, 3, 13);
        holds(x, "from one", 0, 1, 2, 3, 4, 5);
        DUE.is("as they all were, upwards", x.move(0, 0, 0, 1, 4), 4);
        holds(x, "upwards", 0, 1, 1, 2, 3, 4);
        DUE.is("as they all were, downwards", x.move(0, 1, 0, 0, 4), 4);
        holds(x, "downwards", 0, 1, 2, 3, 4, 4);
        DUE.is("none, at the end", x.move(0, 5, 1, 3, 0), 0);
        DUE.is("all", x.move(1, 0, 0, 2, 3), 3);
        holds(x, "all", 0, 1, 2, 2, 3, 13);
        DUE.is("onto itself", x.move(0, 0, 0, 0, 5), 5);
        holds(x, "onto itself", 0, 1, 2, 2, 3, 13);
        DUE.is("none, within one", x.move(0, 5, 0, 5, 0), 0);
        DUE.is("behind the end: move(0, 6, 0, 0, 0)", x.move(0, 6, 0, 0, 0), Due.BEYOND);
        holds(x, "none", 0, 1, 2, 2, 3, 13);
    }

    /** As many numbers as a SHEET holds. */
    private static void wholeSheet() {
        for (int bits = 8; bits <= 32; bits *= 2) {
            NoonLaw x = new NoonLaw();
            for (int i = 0; i < 6; i++) {
                x.person(9);
            }
            x.sheet(0, bits, 24);
            x.sheet(1, bits, 24);
            for (int i = 0; i < 24; i++) {
                DUE.is("put(0, " + i + ", ..) of 24", x.put(0, i, 100 + i), 1);
            }
            DUE.is("put(0, 24, ..) of 24", x.put(0, 24, 1), Due.BEYOND);
            DUE.is("move(0, 0, 1, 0, 24)", x.move(0, 0, 1, 0, 24), 24);
            DUE.is("move(1, 1, 1, 0, 23)", x.move(1, 1, 1, 0, 23), 23);
            DUE.is("move(1, 17, 1, 0, 6)", x.move(1, 17, 1, 0, 6), 6);
            DUE.is("of 24 numbers six are WONTS: wonts(1)", x.wonts(1), 6);
            for (int i = 0; i < 6; i++) {
                DUE.is("of " + bits + " bits: personIs(" + i + ", 0)", x.personIs(i, 0), Math.min(123, 118 + i));
            }
            DUE.is("move(1, 0, 0, 1, 24)", x.move(1, 0, 0, 1, 24), Due.BEYOND);
            DUE.is("move(1, 0, 0, 0, 25)", x.move(1, 0, 0, 0, 25), Due.BEYOND);
        }
    }

    private static void moveErrors() {
        NoonLaw x = new NoonLaw();
        x.sheet(0, 16, 5);
        x.sheet(1, 16, 3);
        x.sheet(2, 8, 3);
        DUE.is("move(4, 0, 0, 0, 0)", x.move(4, 0, 0, 0, 0), Due.BEYOND);
        DUE.is("move(0, 0, 4, 0, 0)", x.move(0, 0, 4, 0, 0), Due.BEYOND);
        DUE.is("move(-1, 0, 3, 0, 0)", x.move(-1, 0, 3, 0, 0), Due.BEYOND);
        DUE.is("move(3, 0, -1, 0, 0)", x.move(3, 0, -1, 0, 0), Due.BEYOND);
        DUE.is("move(3, -1, 0, 0, 0)", x.move(3, -1, 0, 0, 0), Due.NONE);
        DUE.is("move(0, -1, 3, 0, 0)", x.move(0, -1, 3, 0, 0), Due.NONE);
        DUE.is("KIND ahead of the last BEYOND", x.move(0, -1, 2, 0, 0), Due.KIND);
        DUE.is("KIND", x.move(2, 0, 0, 0, 0), Due.KIND);
        int[][] beyond = {{0, 0, -1}, {-1, 0, 0}, {0, -1, 0}, {3, 0, 3}, {0, 1, 3}, {6, 0, 0}, {0, 4, 0}, {0, 0, 4},
            {Integer.MAX_VALUE, 0, 1}, {0, Integer.MAX_VALUE, 1}, {1, 0, Integer.MAX_VALUE}, {0, 0, Integer.MIN_VALUE}};
        for (int[] b : beyond) {
            DUE.is("move(0, " + b[0] + ", 1, " + b[1] + ", " + b[2] + ")", x.move(0, b[0], 1, b[1], b[2]), Due.BEYOND);
        }
        DUE.is("told(1)", x.told(1), 4 + beyond.length);
    }

    private static void wonts() {
        NoonLaw x = new NoonLaw();
        x.person(100);
        x.person(200);
        x.person(300);
        DUE.is("wonts(-1)", x.wonts(-1), Due.BEYOND);
        DUE.is("wonts(4)", x.wonts(4), Due.BEYOND);
        DUE.is("wonts(0)", x.wonts(0), Due.NONE);
        row(x, 0, 0, 1023);
        DUE.is("two of them: wonts(0)", x.wonts(0), 2);
        DUE.is("personIs(0, 0)", x.personIs(0, 0), 0);
        DUE.is("personIs(1, 0)", x.personIs(1, 0), 1023);
        DUE.is("personIs(2, 0)", x.personIs(2, 0), 300);
        row(x, 0, 7, 1024, 8);
        DUE.is("up to 1024: wonts(0)", x.wonts(0), 1);
        DUE.is("personIs(0, 0)", x.personIs(0, 0), 7);
        DUE.is("personIs(1, 0)", x.personIs(1, 0), 1023);
        DUE.is("personIs(2, 0)", x.personIs(2, 0), 300);
        row(x, 0, -1);
        DUE.is("up to -1: wonts(0)", x.wonts(0), 0);
        row(x, 0, 1, 2, 3, 4, 5);
        DUE.is("nobody: wonts(0)", x.wonts(0), 3);
        DUE.is("personIs(2, 0)", x.personIs(2, 0), 3);
        DUE.is("no ERROR: told(1)", x.told(1), 2);
        x.sheet(0, 32, 0);
        DUE.is("none at all: wonts(0)", x.wonts(0), 0);
        NoonLaw y = new NoonLaw();
        row(y, 0, 1, 2);
        DUE.is("nobody at all: wonts(0)", y.wonts(0), 0);
        y.person(4);
        y.sheet(0, 32, 1);
        y.put(0, 0, 65536);
        DUE.is("up to 65536: wonts(0)", y.wonts(0), 0);
        y.put(0, 0, Integer.MIN_VALUE);
        DUE.is("up to MIN: wonts(0)", y.wonts(0), 0);
        DUE.is("personIs(0, 0)", y.personIs(0, 0), 4);
    }

    private static void judge() {
        NoonLaw x = new NoonLaw();
        x.dream(5, 1, 0);
        x.dream(5, 10, 0);
        x.clock(0, 12);
        DUE.is("judge(-1)", x.judge(-1), Due.BEYOND);
        DUE.is("judge(4)", x.judge(4), Due.BEYOND);
        DUE.is("judge(0)", x.judge(0), Due.NONE);
        row(x, 0, 1, 0, -1, -1);
        DUE.is("all right: judge(0)", x.judge(0), 4);
        x.put(0, 2, 0);
        DUE.is("up to the first that is wrong: judge(0)", x.judge(0), 2);
        x.put(0, 0, 2);
        DUE.is("judge(0)", x.judge(0), 0);
        row(x, 0, 1, 0, -1, -1, -1, -1, -1, -1, -1, -1, -1, -1);
        DUE.is("ten MATTERS: judge(0)", x.judge(0), 10);
        x.clock(0, 22);
        DUE.is("at 22: judge(0)", x.judge(0), 0);
        x.sheet(0, 8, 24);
        for (int i = 0; i < 24; i++) {
            x.put(0, i, -1);
        }
        DUE.is("24 numbers, ten MATTERS: judge(0)", x.judge(0), 10);
        x.put(0, 9, 0);
        DUE.is("the last MATTER is wrong: judge(0)", x.judge(0), 9);
        x.sheet(0, 32, 0);
        DUE.is("none at all: judge(0)", x.judge(0), 0);
    }
}
