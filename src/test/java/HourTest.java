/** Promises 15 to 17: HOURS that go by, and DREAMS by DRAWS. */
final class HourTest {
    private static final Due DUE = new Due("HourTest");

    public static void main(String[] args) {
        hours();
        held();
        looseHeld();
        six();
        loose();
        drawn();
        looseEdges();
        seed();
        DUE.end();
    }

    private static void hours() {
        NoonLaw x = new NoonLaw();
        x.dream(5, 0, 0);
        x.dream(29, 11, 0);
        x.person(1);
        x.person(2);
        DUE.is("hours(0)", x.hours(0), Due.BEYOND);
        DUE.is("hours(241)", x.hours(241), Due.BEYOND);
        DUE.is("hours(-1)", x.hours(-1), Due.BEYOND);
        DUE.is("hours(12)", x.hours(12), 12);
        DUE.is("the hour ahead of noon costs nothing", x.personIs(0, 1), 0);
        DUE.is("hours(1)", x.hours(1), 13);
        DUE.is("the hour that went by is fined", x.personIs(0, 1), 1);
        DUE.is("hours(11)", x.hours(11), 24);
        // banned 12 .. 21, bidden 14 .. 22
        DUE.is("does 0, does not 1: personIs(0, 1)", x.personIs(0, 1), 19);
        DUE.is("does 1, does not 0: personIs(1, 1)", x.personIs(1, 1), 0);
        DUE.is("hours(240)", x.hours(240), 264);
        x.clock(0, 9999 - 240);
        DUE.is("hours(240) to 9999", x.hours(240), 9999);
        DUE.is("hours(1) from 9999", x.hours(1), Due.STATE);
        x.clock(0, 9998);
        DUE.is("hours(2) from 9998", x.hours(2), Due.STATE);
        DUE.is("BEYOND ahead of STATE", x.hours(0), Due.BEYOND);
        DUE.is("count(2)", x.count(2), 9998);
        DUE.is("told(3)", x.told(3), 2);
    }

    private static void held() {
        NoonLaw x = new NoonLaw();
        x.person(0);
        Due.text(x, 0, "99");
        x.hours(100);
        DUE.is("99 a hundred times: personIs(0, 1)", x.personIs(0, 1), 9900);
        x.hours(1);
        DUE.is("held at 9999: personIs(0, 1)", x.personIs(0, 1), 9999);
        x.hours(1);
        DUE.is("held at 9999: personIs(0, 1)", x.personIs(0, 1), 9999);
        Due.text(x, 0, "0-5");
        x.hours(1);
        DUE.is("no FINE gives back", x.personIs(0, 1), 9999);
        DUE.is("one more: person(0)", x.person(0), 1);
        Due.text(x, 0, "n+h");
        x.clock(0, 30);
        x.hours(2);
        DUE.is("n and h: personIs(1, 1)", x.personIs(1, 1), 1 + 6 + 1 + 7);
    }

    private static void looseHeld() {
        NoonLaw x = new NoonLaw();
        x.person(0);
        x.clock(0, 24 * 100);
        Due.text(x, 0, "99");
        x.hours(100);
        x.loose(1);
        DUE.is("held at 9999 by draws: personIs(0, 1)", x.personIs(0, 1), 9999);
        x.loose(48);
        DUE.is("held at 9999 by draws: personIs(0, 1)", x.personIs(0, 1), 9999);
    }

    /** As many PEOPLE and DREAMS as there are room for, each fined for what is one's own. */
    private static void six() {
        NoonLaw x = new NoonLaw();
        for (int i = 0; i < 9; i++) {
            x.dream(5, 10 * i, 0);
        }
        for (int i = 0; i < 6; i++) {
            x.person((1 << 2 * i) - 1);
        }
        x.clock(0, 12);
        x.hours(2);
        x.loose(1);
        int[] guilt = {0, 2, 4, 6, 8, 9};
        for (int i = 0; i < 6; i++) {
            DUE.is("three hours of " + guilt[i] + ": personIs(" + i + ", 1)", x.personIs(i, 1), 3 * guilt[i]);
            DUE.is("then(" + i + ", 240)", x.then(i, 240), 10 * guilt[i]);
        }
    }

    private static void loose() {
        NoonLaw x = new NoonLaw();
        DUE.is("loose(22)", x.loose(22), 0);
        DUE.is("no draw ahead of SLEEP: count(7)", x.count(7), 1);
        int z1 = 1 * 1103515245 + 12345;
        int z2 = z1 * 1103515245 + 12345;
        int z3 = z2 * 1103515245 + 12345;
        DUE.is("loose(1)", x.loose(1), 1);
        DUE.is("three draws: count(7)", x.count(7), z3);
        int[] due = {(z1 >>> 8) % 7, (z3 >>> 8) % 20 / 2, (z2 >>> 8) % 10, (z3 >>> 8) % 20 % 2, 1, 0};
        for (int what = 0; what < 6; what++) {
            DUE.is("drawn: dreamIs(0, " + what + ")", x.dreamIs(0, what), due[what]);
        }
        DUE.is("count(2)", x.count(2), 23);
        DUE.is("loose(23)", x.loose(23), 1);
        DUE.is("loose(1)", x.loose(1), 2);
        DUE.is("dreamIs(1, 4)", x.dreamIs(1, 4), 2);
        NoonLaw y = new NoonLaw();
        y.dream(0, 1, 0);
        y.person(0);
        y.loose(14);
        DUE.is("AN HOUR goes by, too: personIs(0, 1)", y.personIs(0, 1), 2);
    }

    /** Of several seeds: whether a drawn DREAM is what its three draws say. */
    private static void drawn() {
        for (int seed = -20; seed < 20; seed++) {
            NoonLaw x = new NoonLaw();
            x.seed(seed);
            x.clock(0, 22);
            x.loose(1);
            int z = seed;
            int[] draws = new int[3];
            for (int i = 0; i < 3; i++) {
                z = z * 1103515245 + 12345;
                draws[i] = z >>> 8;
            }
            int[] due = {draws[0] % 7, draws[2] % 20 / 2, draws[1] % 10, draws[2] % 2, 1, 0};
            for (int what = 0; what < 6; what++) {
                DUE.is("seed " + seed + ": dreamIs(0, " + what + ")", x.dreamIs(0, what), due[what]);
            }
        }
    }

    private static void looseEdges() {
        NoonLaw x = new NoonLaw();
        DUE.is("loose(0)", x.loose(0), Due.BEYOND);
        DUE.is("loose(49)", x.loose(49), Due.BEYOND);
        x.clock(1, 24);
        DUE.is("SLEEP 24 is the hour 0", x.loose(1), 1);
        DUE.is("of the next DAY: dreamIs(0, 4)", x.dreamIs(0, 4), 1);
        DUE.is("loose(23)", x.loose(23), 1);
        DUE.is("loose(48)", x.loose(48), 3);
        for (int i = 0; i < 6; i++) {
            x.dream(0, 0, 0);
        }
        int z = x.count(7);
        DUE.is("nine are enough", x.loose(48), 9);
        DUE.is("no draw then: count(7)", x.count(7), z);
        NoonLaw y = new NoonLaw();
        y.clock(0, 24 * 98 + 22);
        DUE.is("DAY 99 is the last", y.loose(1), 1);
        DUE.is("dreamIs(0, 4)", y.dreamIs(0, 4), 99);
        y.clock(0, 24 * 99 + 22);
        z = y.count(7);
        DUE.is("none of DAY 100", y.loose(1), 1);
        DUE.is("no draw for it: count(7)", y.count(7), z);
        y.clock(1, 13);
        y.clock(0, 24 * 98 + 13);
        DUE.is("SLEEP 13 is the hour 13", y.loose(1), 2);
        y.clock(1, 22);
        y.clock(0, 9999 - 48);
        DUE.is("loose(48) to 9999", y.loose(48), 2);
        DUE.is("count(2)", y.count(2), 9999);
        DUE.is("loose(1) from 9999", y.loose(1), Due.STATE);
        DUE.is("BEYOND ahead of STATE", y.loose(49), Due.BEYOND);
        y.clock(0, 9998);
        DUE.is("loose(2) from 9998", y.loose(2), Due.STATE);
        DUE.is("count(2)", y.count(2), 9998);
    }

    private static void seed() {
        NoonLaw x = new NoonLaw();
        DUE.is("seed(77)", x.seed(77), 1);
        DUE.is("seed(LOW - 1)", x.seed(Due.BEYOND), 77);
        DUE.is("count(7)", x.count(7), Due.BEYOND);
        DUE.is("seed(-5)", x.seed(-5), Due.BEYOND);
        DUE.is("no ERROR: told(1)", x.told(1), 0);
        x.clock(0, 22);
        x.loose(1);
        int z1 = -5 * 1103515245 + 12345;
        DUE.is("a draw is z >>> 8: dreamIs(0, 0)", x.dreamIs(0, 0), (z1 >>> 8) % 7);
    }
}
