/** Promises 1 to 6: a new object, and the DREAMS. */
final class DreamTest {
    private static final Due DUE = new Due("DreamTest");

    public static void main(String[] args) {
        newObject();
        dream();
        dreamIs();
        plainDream();
        nightmare();
        nap();
        recurring();
        falling();
        doze();
        blank();
        lastDay();
        become();
        as();
        forgets();
        DUE.end();
    }

    private static void newObject() {
        NoonLaw x = new NoonLaw();
        int[] counts = {0, 0, 0, 22, 0, 0, 0, 1};
        for (int i = 0; i < counts.length; i++) {
            DUE.is("new: count(" + i + ")", x.count(i), counts[i]);
        }
        for (int k = 1; k <= 6; k++) {
            DUE.is("new: told(" + k + ")", x.told(k), 0);
        }
        DUE.is("new: untell(0)", x.untell(0), 0);
        DUE.is("new: untell(1)", x.untell(1), 0);
        DUE.is("new: dreamIs(0, 0)", x.dreamIs(0, 0), Due.BEYOND);
        DUE.is("new: personIs(0, 0)", x.personIs(0, 0), Due.BEYOND);
        DUE.is("new: restore()", x.restore(), Due.NONE);
        DUE.is("new: body(0)", x.body(0), Due.NONE);
        for (int sheet = 0; sheet < 4; sheet++) {
            DUE.is("new: judge(" + sheet + ")", x.judge(sheet), Due.NONE);
        }
        DUE.is("new: check()", x.check(), 0);
        DUE.is("new: now(0)", x.now(0), 0);
        NoonLaw other = new NoonLaw();
        x.dream(0, 0, 0);
        DUE.is("objects stand alone: count(0)", other.count(0), 0);
    }

    private static void dream() {
        NoonLaw x = new NoonLaw();
        int[][] beyond = {{-1, 0, 0}, {70, 0, 0}, {0, -1, 0}, {0, -10, 0}, {0, 2, 0}, {0, 9, 0}, {0, 92, 0}, {0, 99, 0},
            {0, 100, 0}, {0, 101, 0}, {0, 0, -1}, {0, 0, 100}, {Integer.MIN_VALUE, 0, 0}, {0, Integer.MAX_VALUE, 0}};
        for (int[] a : beyond) {
            DUE.is("dream(" + a[0] + ", " + a[1] + ", " + a[2] + ")", x.dream(a[0], a[1], a[2]), Due.BEYOND);
        }
        DUE.is("after BEYOND: count(0)", x.count(0), 0);
        DUE.is("dream(69, 91, 99)", x.dream(69, 91, 99), 0);
        DUE.is("dream(0, 90, 0)", x.dream(0, 90, 0), 1);
        for (int i = 2; i < 9; i++) {
            DUE.is("dream " + i, x.dream(i, 1, i), i);
        }
        DUE.is("a tenth: dream(0, 0, 0)", x.dream(0, 0, 0), Due.FULL);
        DUE.is("BEYOND ahead of FULL", x.dream(70, 0, 0), Due.BEYOND);
        DUE.is("count(0)", x.count(0), 9);
    }

    private static void dreamIs() {
        NoonLaw x = new NoonLaw();
        x.dream(47, 31, 12);
        int[] due = {4, 7, 3, 1, 12, 0, 0, 7};
        for (int what = 0; what < 8; what++) {
            DUE.is("dreamIs(0, " + what + ")", x.dreamIs(0, what), due[what]);
        }
        x.dream(20, 80, 0);
        DUE.is("dreamIs(1, 0)", x.dreamIs(1, 0), 2);
        DUE.is("dreamIs(1, 1)", x.dreamIs(1, 1), 0);
        DUE.is("dreamIs(1, 2)", x.dreamIs(1, 2), 8);
        DUE.is("dreamIs(1, 3)", x.dreamIs(1, 3), 0);
        DUE.is("dreamIs(0, 8)", x.dreamIs(0, 8), Due.BEYOND);
        DUE.is("dreamIs(0, -1)", x.dreamIs(0, -1), Due.BEYOND);
        DUE.is("dreamIs(2, 0)", x.dreamIs(2, 0), Due.BEYOND);
        DUE.is("dreamIs(-1, 0)", x.dreamIs(-1, 0), Due.BEYOND);
        Due.text(x, 1, "k*10+m+d");
        x.clock(0, 24 * 13 + 5);
        DUE.is("WEIGHT by TEXT, a DAY on", x.dreamIs(0, 7), 48);
        x.clock(0, 0);
        DUE.is("WEIGHT by TEXT, twelve DAYS ahead", x.dreamIs(0, 7), 35);
        Due.text(x, 1, "d*9");
        DUE.is("WEIGHT is held", x.dreamIs(0, 7), -99);
        x.clock(0, 24 * 23);
        DUE.is("WEIGHT 99", x.dreamIs(0, 7), 99);
        x.clock(0, 24 * 24);
        DUE.is("WEIGHT is held above", x.dreamIs(0, 7), 99);
    }

    /** In which HOURS of the days 0 .. 5 a DREAM is IN FORCE. */
    private static void inForce(String what, int km, int day, int sleep, String... spans) {
        NoonLaw x = new NoonLaw();
        x.dream(km, 1, day);
        x.clock(1, sleep);
        StringBuilder found = new StringBuilder();
        boolean was = false;
        for (int hour = 0; hour < 144; hour++) {
            x.clock(0, hour);
            boolean is = x.dreamIs(0, 6) == 1;
            if (is != was) {
                found.append(is ? " " : "-").append(hour);
            }
            was = is;
        }
        String due = spans.length == 0 ? "" : " " + String.join(" ", spans);
        if (!due.contentEquals(found)) {
            DUE.is(what + ": IN FORCE at" + found + ", due" + due, 0, 1);
        }
    }

    private static void plainDream() {
        inForce("DREAM", 5, 2, 22, "60-70");
        inForce("DREAM, SLEEP 13", 5, 2, 13, "60-61");
        inForce("DREAM, SLEEP 24", 5, 0, 24, "12-24");
        inForce("DREAM of day 99", 5, 99, 22);
    }

    private static void nightmare() {
        inForce("NIGHTMARE 3", 13, 1, 22, "36-43");
        inForce("NIGHTMARE 0", 10, 1, 22, "36-46");
        inForce("NIGHTMARE 9, SLEEP 20", 19, 1, 20);
        inForce("NIGHTMARE 9, SLEEP 22", 19, 1, 22, "36-37");
    }

    private static void nap() {
        inForce("NAP 4", 24, 0, 22, "14-18");
        inForce("NAP 0", 20, 0, 22);
        inForce("NAP 9, whatever SLEEP", 29, 2, 13, "62-71");
    }

    private static void recurring() {
        inForce("RECURRING 0", 30, 3, 22, "84-94", "108-118", "132-142");
        inForce("RECURRING 1", 31, 1, 14, "36-38", "84-86", "132-134");
        inForce("RECURRING 2, not ahead of its day", 32, 3, 22, "84-94");
        inForce("RECURRING 9", 39, 0, 22, "12-22");
    }

    private static void falling() {
        inForce("FALLING 2", 42, 1, 22, "34-44");
        inForce("FALLING 0", 40, 1, 22, "36-46");
        inForce("FALLING 9, SLEEP 13", 49, 1, 13, "27-36");
        inForce("FALLING 9, SLEEP 20", 49, 0, 20, "3-12");
    }

    private static void doze() {
        inForce("DOZE 3", 53, 0, 22, "14-17", "24-27");
        inForce("DOZE 0", 50, 0, 22);
        inForce("DOZE 9", 59, 2, 13, "62-71", "72-81");
    }

    private static void blank() {
        inForce("BLANK 9", 69, 1, 22, "36-46");
        inForce("BLANK 8", 68, 1, 22);
        inForce("BLANK 0", 60, 1, 22);
    }

    /** DAY 99 is the last of a DREAM, but not of the HOURS. */
    private static void lastDay() {
        int day = 24 * 99;
        int[][] due = {{5, day + 11, 0}, {5, day + 12, 1}, {5, day + 21, 1}, {5, day + 22, 0}, {5, day + 36, 0},
            {53, day + 23, 0}, {53, day + 24, 1}, {53, day + 26, 1}, {53, day + 27, 0}, {53, day + 48, 0},
            {39, 12, 0}, {39, day - 12, 0}, {39, day + 12, 1}, {39, day + 36, 0}, {39, day + 252, 1}, {30, 9999, 1}};
        for (int[] d : due) {
            NoonLaw x = new NoonLaw();
            x.dream(d[0], 1, 99);
            x.clock(0, d[1]);
            DUE.is("dream(" + d[0] + ", 1, 99) at " + d[1] + " is IN FORCE", x.dreamIs(0, 6), d[2]);
        }
    }

    private static void become() {
        NoonLaw x = new NoonLaw();
        x.dream(5, 71, 3);
        x.forgets(0, 1);
        DUE.is("become(0, 49)", x.become(0, 49), 0);
        int[] due = {4, 9, 7, 1, 3, 1};
        for (int what = 0; what < 6; what++) {
            DUE.is("after become: dreamIs(0, " + what + ")", x.dreamIs(0, what), due[what]);
        }
        DUE.is("become(0, 70)", x.become(0, 70), Due.BEYOND);
        DUE.is("become(0, -1)", x.become(0, -1), Due.BEYOND);
        DUE.is("become(1, 0)", x.become(1, 0), Due.BEYOND);
        DUE.is("become(-1, 0)", x.become(-1, 0), Due.BEYOND);
        DUE.is("become(0, 0)", x.become(0, 0), 4);
        DUE.is("dreamIs(0, 1)", x.dreamIs(0, 1), 0);
    }

    private static void as() {
        NoonLaw x = new NoonLaw();
        String[] ofKind = {"0", "01", "02", "03", "014", "025", "06"};
        x.dream(0, 0, 0);
        for (int kind = 0; kind < 7; kind++) {
            x.become(0, 10 * kind + kind + 1);
            for (int as = 0; as < 7; as++) {
                int due = ofKind[kind].indexOf('0' + as) >= 0 ? kind + 1 : Due.KIND;
                DUE.is("a " + kind + " as(0, " + as + ")", x.as(0, as), due);
            }
        }
        DUE.is("as(0, 7)", x.as(0, 7), Due.BEYOND);
        DUE.is("as(0, -1)", x.as(0, -1), Due.BEYOND);
        DUE.is("as(1, 0)", x.as(1, 0), Due.BEYOND);
        DUE.is("as(-1, 0)", x.as(-1, 0), Due.BEYOND);
    }

    private static void forgets() {
        NoonLaw x = new NoonLaw();
        x.dream(5, 1, 0);
        x.clock(0, 12);
        DUE.is("forgets(0, 0)", x.forgets(0, 0), 0);
        DUE.is("forgets(0, 1)", x.forgets(0, 1), 0);
        DUE.is("dreamIs(0, 5)", x.dreamIs(0, 5), 1);
        DUE.is("FORGOTTEN: dreamIs(0, 6)", x.dreamIs(0, 6), 0);
        DUE.is("FORGOTTEN: rule(0, 0)", x.rule(0, 0), -1);
        DUE.is("forgets(0, 2)", x.forgets(0, 2), Due.BEYOND);
        DUE.is("forgets(0, -1)", x.forgets(0, -1), Due.BEYOND);
        DUE.is("forgets(1, 0)", x.forgets(1, 0), Due.BEYOND);
        DUE.is("forgets(-1, 0)", x.forgets(-1, 0), Due.BEYOND);
        DUE.is("forgets(0, 0) again", x.forgets(0, 0), 1);
        DUE.is("dreamIs(0, 6)", x.dreamIs(0, 6), 1);
        for (int kind = 0; kind < 7; kind++) {
            NoonLaw y = new NoonLaw();
            y.dream(10 * kind + 9, 0, 0);
            y.forgets(0, 1);
            int found = 0;
            for (int hour = 0; hour < 48; hour++) {
                y.clock(0, hour);
                found += y.dreamIs(0, 6);
            }
            DUE.is("a FORGOTTEN one of KIND " + kind, found, 0);
        }
    }
}
