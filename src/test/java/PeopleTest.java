/** Promises 7 to 10: the PEOPLE, and the clock. */
final class PeopleTest {
    private static final Due DUE = new Due("PeopleTest");

    public static void main(String[] args) {
        person();
        personIs();
        takesTo();
        clock();
        DUE.end();
    }

    private static void person() {
        NoonLaw x = new NoonLaw();
        DUE.is("person(-1)", x.person(-1), Due.BEYOND);
        DUE.is("person(1024)", x.person(1024), Due.BEYOND);
        for (int i = 0; i < 6; i++) {
            DUE.is("person " + i, x.person(i == 5 ? 1023 : i), i);
        }
        DUE.is("a seventh: person(0)", x.person(0), Due.FULL);
        DUE.is("BEYOND ahead of FULL: person(1024)", x.person(1024), Due.BEYOND);
        DUE.is("count(1)", x.count(1), 6);
        DUE.is("personIs(5, 0)", x.personIs(5, 0), 1023);
    }

    private static void personIs() {
        NoonLaw x = new NoonLaw();
        // bans 0 and 1, bids 2 and 3, from 12 till 22
        x.dream(5, 0, 0);
        x.dream(5, 10, 0);
        x.dream(5, 21, 0);
        x.dream(5, 31, 0);
        x.person(0b0111);
        x.person(0b1100);
        x.person(0b10011);
        x.clock(0, 11);
        DUE.is("at 11: personIs(0, 2)", x.personIs(0, 2), 0);
        x.clock(0, 12);
        DUE.is("personIs(0, 0)", x.personIs(0, 0), 7);
        DUE.is("personIs(0, 1)", x.personIs(0, 1), 0);
        DUE.is("two banned, one bidden: personIs(0, 2)", x.personIs(0, 2), 3);
        DUE.is("personIs(1, 2)", x.personIs(1, 2), 0);
        DUE.is("personIs(2, 2)", x.personIs(2, 2), 4);
        DUE.is("FINE without a TEXT: personIs(0, 3)", x.personIs(0, 3), 3);
        Due.text(x, 0, "g*10+n+h*100*(g=0)");
        DUE.is("FINE by TEXT: personIs(0, 3)", x.personIs(0, 3), 30);
        DUE.is("FINE by TEXT, held: personIs(1, 3)", x.personIs(1, 3), 99);
        DUE.is("FINE by TEXT: personIs(2, 3)", x.personIs(2, 3), 42);
        Due.text(x, 0, "h");
        DUE.is("the hour of the day: personIs(0, 3)", x.personIs(0, 3), 12);
        x.clock(0, 24 * 3 + 7);
        DUE.is("the hour of the day: personIs(0, 3)", x.personIs(0, 3), 7);
        DUE.is("personIs(0, 4)", x.personIs(0, 4), Due.BEYOND);
        DUE.is("personIs(0, -1)", x.personIs(0, -1), Due.BEYOND);
        DUE.is("personIs(3, 0)", x.personIs(3, 0), Due.BEYOND);
        DUE.is("personIs(-1, 0)", x.personIs(-1, 0), Due.BEYOND);
    }

    private static void takesTo() {
        NoonLaw x = new NoonLaw();
        x.dream(5, 0, 0);
        x.person(5);
        x.clock(0, 12);
        x.hours(1);
        DUE.is("takesTo(0, 1023)", x.takesTo(0, 1023), 5);
        DUE.is("personIs(0, 0)", x.personIs(0, 0), 1023);
        DUE.is("FINED stays: personIs(0, 1)", x.personIs(0, 1), 1);
        DUE.is("takesTo(0, 1024)", x.takesTo(0, 1024), Due.BEYOND);
        DUE.is("takesTo(0, -1)", x.takesTo(0, -1), Due.BEYOND);
        DUE.is("takesTo(1, 0)", x.takesTo(1, 0), Due.BEYOND);
        DUE.is("takesTo(-1, 0)", x.takesTo(-1, 0), Due.BEYOND);
        DUE.is("takesTo(0, 0)", x.takesTo(0, 0), 1023);
        DUE.is("without guilt: personIs(0, 2)", x.personIs(0, 2), 0);
    }

    private static void clock() {
        NoonLaw x = new NoonLaw();
        DUE.is("clock(0, 9999)", x.clock(0, 9999), 0);
        DUE.is("clock(0, 10000)", x.clock(0, 10000), Due.BEYOND);
        DUE.is("clock(0, -1)", x.clock(0, -1), Due.BEYOND);
        DUE.is("count(2)", x.count(2), 9999);
        DUE.is("clock(0, 0)", x.clock(0, 0), 9999);
        DUE.is("clock(1, 13)", x.clock(1, 13), 22);
        DUE.is("clock(1, 24)", x.clock(1, 24), 13);
        DUE.is("clock(1, 12)", x.clock(1, 12), Due.BEYOND);
        DUE.is("clock(1, 25)", x.clock(1, 25), Due.BEYOND);
        DUE.is("count(3)", x.count(3), 24);
        DUE.is("clock(2, 15)", x.clock(2, 15), Due.BEYOND);
        DUE.is("clock(-1, 15)", x.clock(-1, 15), Due.BEYOND);
        DUE.is("told(1)", x.told(1), 6);
    }
}
