/** Promises 18 to 26: what is law, and what would be. */
final class ThoughtTest {
    private static final Due DUE = new Due("ThoughtTest");

    public static void main(String[] args) {
        rule();
        now();
        then();
        first();
        siestas();
        best();
        fewest();
        odds();
        fits();
        beyondTheLastHour();
        weightsOfThatHour();
        onlyThought();
        DUE.end();
    }

    /** MATTER 0: bidden at 5 from 12 till 22, banned at 3 from 12 till 19, at 5 from 14 till 19. */
    private static NoonLaw disputed() {
        NoonLaw x = new NoonLaw();
        x.dream(5, 1, 0);
        x.dream(13, 0, 0);
        x.dream(25, 0, 0);
        return x;
    }

    private static void rule() {
        NoonLaw x = disputed();
        int[][] due = {{0, -1}, {11, -1}, {12, 1}, {13, 1}, {14, -1}, {18, -1}, {19, 1}, {21, 1}, {22, -1}, {36, -1}, {240, -1}};
        for (int[] d : due) {
            DUE.is("rule(0, " + d[0] + ")", x.rule(0, d[0]), d[1]);
        }
        x.clock(0, 10);
        DUE.is("from HOUR on: rule(0, 2)", x.rule(0, 2), 1);
        DUE.is("rule(1, 2)", x.rule(1, 2), -1);
        x.become(1, 6);
        DUE.is("the heavier one bans: rule(0, 2)", x.rule(0, 2), 0);
        Due.text(x, 1, "0-m");
        DUE.is("WEIGHTS below 0: rule(0, 2)", x.rule(0, 2), 1);
        x.forgets(0, 1);
        DUE.is("one side only, below 0: rule(0, 2)", x.rule(0, 2), 0);
        Due.text(x, 1, "0-99");
        DUE.is("one side only, at -99: rule(0, 2)", x.rule(0, 2), 0);
        x.forgets(0, 0);
        DUE.is("alike: rule(0, 2)", x.rule(0, 2), -1);
        DUE.is("rule(-1, 0)", x.rule(-1, 0), Due.BEYOND);
        DUE.is("rule(10, 0)", x.rule(10, 0), Due.BEYOND);
        DUE.is("rule(0, -1)", x.rule(0, -1), Due.BEYOND);
        DUE.is("rule(0, 241)", x.rule(0, 241), Due.BEYOND);
        x.become(1, 30);
        x.clock(0, 9999);
        DUE.is("beyond 9999: rule(0, 12)", x.rule(0, 12), -1);
        DUE.is("9999 is day 416, 15: rule(0, 6)", x.rule(0, 6), 0);
        DUE.is("beyond 9999: rule(0, 24)", x.rule(0, 24), 0);
    }

    private static void now() {
        NoonLaw x = disputed();
        x.dream(5, 91, 0);
        x.dream(5, 30, 0);
        x.dream(5, 31, 0);
        x.dream(5, 50, 0);
        x.clock(0, 12);
        DUE.is("now(0)", x.now(0), 0b1111011);
        DUE.is("now(1)", x.now(1), 1 << 9 | 1);
        DUE.is("now(2)", x.now(2), 1 << 5);
        DUE.is("now(3)", x.now(3), 2);
        x.clock(0, 19);
        DUE.is("at 19: now(3)", x.now(3), 1);
        x.clock(0, 22);
        for (int what = 0; what < 4; what++) {
            DUE.is("at 22: now(" + what + ")", x.now(what), 0);
        }
        DUE.is("now(4)", x.now(4), Due.BEYOND);
        DUE.is("now(-1)", x.now(-1), Due.BEYOND);
    }

    private static void then() {
        NoonLaw x = disputed();
        x.person(0);
        x.person(1);
        DUE.is("then(0, 0)", x.then(0, 0), 0);
        DUE.is("then(0, 12)", x.then(0, 12), 0);
        DUE.is("then(0, 13)", x.then(0, 13), 1);
        DUE.is("then(0, 240)", x.then(0, 240), 5);
        DUE.is("then(1, 240)", x.then(1, 240), 0);
        x.hours(13);
        DUE.is("from FINED on: then(0, 1)", x.then(0, 1), 2);
        DUE.is("then(2, 0)", x.then(2, 0), Due.BEYOND);
        DUE.is("then(-1, 0)", x.then(-1, 0), Due.BEYOND);
        DUE.is("then(0, -1)", x.then(0, -1), Due.BEYOND);
        DUE.is("then(0, 241)", x.then(0, 241), Due.BEYOND);
        Due.text(x, 0, "99*n");
        DUE.is("held at 9999: then(1, 240)", x.then(1, 240), 9999);
        DUE.is("then(1, 100)", x.then(1, 100), 9900);
        Due.text(x, 0, "h=3");
        x.clock(0, 9999);
        DUE.is("beyond 9999: then(1, 240)", x.then(1, 240), 10);
    }

    private static void first() {
        NoonLaw x = disputed();
        DUE.is("first(0, 1)", x.first(0, 1), 12);
        DUE.is("first(0, -1)", x.first(0, -1), 0);
        DUE.is("first(0, 0)", x.first(0, 0), Due.NONE);
        x.clock(0, 13);
        DUE.is("from 13: first(0, 1)", x.first(0, 1), 0);
        DUE.is("from 13: first(0, -1)", x.first(0, -1), 1);
        DUE.is("first(0, 2)", x.first(0, 2), Due.BEYOND);
        DUE.is("first(0, -2)", x.first(0, -2), Due.BEYOND);
        DUE.is("first(10, 0)", x.first(10, 0), Due.BEYOND);
        DUE.is("first(-1, 0)", x.first(-1, 0), Due.BEYOND);
        x.dream(0, 10, 11);
        x.clock(0, 24 * 11 + 12 - 240);
        DUE.is("240 is near enough: first(1, 0)", x.first(1, 0), 240);
        x.clock(0, 24 * 11 + 12 - 241);
        DUE.is("241 is not: first(1, 0)", x.first(1, 0), Due.NONE);
        DUE.is("told(2)", x.told(2), 2);
    }

    private static void siestas() {
        NoonLaw x = disputed();
        DUE.is("siestas(0)", x.siestas(0), 0);
        DUE.is("siestas(12)", x.siestas(12), 0);
        DUE.is("siestas(13)", x.siestas(13), 1);
        DUE.is("siestas(240)", x.siestas(240), 7);
        x.dream(0, 10, 0);
        x.dream(0, 11, 0);
        DUE.is("hours, not DISPUTES: siestas(240)", x.siestas(240), 10);
        x.clock(0, 20);
        DUE.is("from 20: siestas(240)", x.siestas(240), 2);
        DUE.is("siestas(-1)", x.siestas(-1), Due.BEYOND);
        DUE.is("siestas(241)", x.siestas(241), Due.BEYOND);
    }

    private static void best() {
        NoonLaw x = new NoonLaw();
        // MATTER 0: bidden 12 .. 21; MATTER 3: banned 12 .. 21, bidden as heavily or more 14 .. 17
        x.dream(5, 1, 0);
        x.dream(5, 30, 0);
        x.dream(24, 31, 0);
        x.become(2, 25);
        x.become(1, 4);
        DUE.is("best(0, 0)", x.best(0, 0), 0);
        DUE.is("best(0, 1)", x.best(0, 1), 0);
        DUE.is("best(12, 0)", x.best(12, 0), 0);
        DUE.is("best(13, 0)", x.best(13, 0), 1);
        DUE.is("best(24, 0)", x.best(24, 0), 1);
        DUE.is("banned 5, bidden 5: best(24, 1)", x.best(24, 1), 5);
        DUE.is("banned 2, bidden 5: best(19, 0)", x.best(19, 0), 9);
        DUE.is("best(19, 1)", x.best(19, 1), 2);
        DUE.is("banned 2, bidden 2, the least: best(16, 0)", x.best(16, 0), 1);
        DUE.is("best(16, 1)", x.best(16, 1), 2);
        DUE.is("best(17, 0)", x.best(17, 0), 9);
        x.clock(0, 19);
        DUE.is("from 19: best(240, 0)", x.best(240, 0), 1);
        x.forgets(0, 1);
        DUE.is("each time anew: best(240, 0)", x.best(240, 0), 0);
        DUE.is("each time anew: best(240, 1)", x.best(240, 1), 0);
        x.forgets(0, 0);
        x.clock(0, 12);
        DUE.is("the hour now: best(1, 0)", x.best(1, 0), 1);
        DUE.is("best(-1, 0)", x.best(-1, 0), Due.BEYOND);
        DUE.is("best(241, 0)", x.best(241, 0), Due.BEYOND);
        DUE.is("best(1, 2)", x.best(1, 2), Due.BEYOND);
        DUE.is("best(1, -1)", x.best(1, -1), Due.BEYOND);
        NoonLaw y = new NoonLaw();
        y.dream(30, 91, 0);
        y.clock(0, 9999);
        DUE.is("beyond 9999: best(240, 0)", y.best(240, 0), 512);
    }

    private static void fewest() {
        NoonLaw x = disputed();
        DUE.is("fewest(0, 12, 0)", x.fewest(0, 12, 0), 0);
        DUE.is("fewest(0, 12, 1)", x.fewest(0, 12, 1), 0);
        DUE.is("fewest(0, 13, 0)", x.fewest(0, 13, 0), 2);
        DUE.is("fewest(0, 13, 1)", x.fewest(0, 13, 1), 3);
        DUE.is("fewest(0, 15, 0)", x.fewest(0, 15, 0), 3);
        DUE.is("fewest(0, 240, 1)", x.fewest(0, 240, 1), 7);
        DUE.is("another matter: fewest(1, 240, 0)", x.fewest(1, 240, 0), 0);
        x.clock(0, 12);
        DUE.is("the hour now: fewest(0, 1, 1)", x.fewest(0, 1, 1), 3);
        x.clock(0, 0);
        x.forgets(1, 1);
        DUE.is("one is FORGOTTEN: fewest(0, 13, 1)", x.fewest(0, 13, 1), 1);
        DUE.is("one is FORGOTTEN: fewest(0, 240, 1)", x.fewest(0, 240, 1), 5);
        x.clock(0, 14);
        DUE.is("alike: fewest(0, 5, 0)", x.fewest(0, 5, 0), 0);
        DUE.is("still thought: dreamIs(0, 5)", x.dreamIs(0, 5), 0);
        DUE.is("fewest(0, 0, 0)", x.fewest(0, 0, 0), Due.BEYOND);
        DUE.is("fewest(0, 241, 0)", x.fewest(0, 241, 0), Due.BEYOND);
        DUE.is("fewest(10, 1, 0)", x.fewest(10, 1, 0), Due.BEYOND);
        DUE.is("fewest(-1, 1, 0)", x.fewest(-1, 1, 0), Due.BEYOND);
        DUE.is("fewest(0, 1, 2)", x.fewest(0, 1, 2), Due.BEYOND);
        DUE.is("fewest(0, 1, -1)", x.fewest(0, 1, -1), Due.BEYOND);
        NoonLaw y = new NoonLaw();
        y.dream(5, 1, 0);
        y.dream(3, 1, 0);
        y.dream(3, 0, 0);
        DUE.is("a balance: fewest(0, 24, 1)", y.fewest(0, 24, 1), 1);
        for (int i = 3; i < 9; i++) {
            y.dream(i, 91, 0);
        }
        DUE.is("six of a side: fewest(9, 24, 1)", y.fewest(9, 24, 1), 504);
        DUE.is("fewest(9, 24, 0)", y.fewest(9, 24, 0), 6);
        fewestInTurn();
    }

    /** DREAMS that bid and ban in turn, each a little lighter: what is forgotten lets the next one hold. */
    private static void fewestInTurn() {
        NoonLaw x = new NoonLaw();
        x.clock(0, 12);
        for (int i = 0; i < 9; i++) {
            x.dream(9 - i, i % 2, 0);
        }
        DUE.is("all nine: fewest(0, 1, 0)", x.fewest(0, 1, 0), 9);
        DUE.is("all nine: fewest(0, 1, 1)", x.fewest(0, 1, 1), 511);
        x.become(7, 1);
        DUE.is("up to two that are alike: fewest(0, 1, 1)", x.fewest(0, 1, 1), 127);
        x.forgets(3, 1);
        DUE.is("one is FORGOTTEN: fewest(0, 1, 1)", x.fewest(0, 1, 1), 127 - 8);
        for (int i = 0; i < 9; i++) {
            x.forgets(i, 1);
        }
        DUE.is("all are FORGOTTEN: fewest(0, 240, 1)", x.fewest(0, 240, 1), 0);
    }

    private static void odds() {
        NoonLaw x = disputed();
        DUE.is("odds(0, 1, 0)", x.odds(0, 1, 0), 5);
        DUE.is("odds(0, 1, 1)", x.odds(0, 1, 1), 48);
        DUE.is("odds(0, -1, 0)", x.odds(0, -1, 0), 43);
        DUE.is("0 is 0 by 1: odds(0, 0, 0)", x.odds(0, 0, 0), 0);
        DUE.is("0 is 0 by 1: odds(0, 0, 1)", x.odds(0, 0, 1), 1);
        DUE.is("all of them: odds(4, -1, 0)", x.odds(4, -1, 0), 1);
        DUE.is("all of them: odds(4, -1, 1)", x.odds(4, -1, 1), 1);
        x.dream(0, 40, 1);
        DUE.is("10 of 48: odds(4, 0, 0)", x.odds(4, 0, 0), 5);
        DUE.is("10 of 48: odds(4, 0, 1)", x.odds(4, 0, 1), 24);
        x.clock(1, 24);
        DUE.is("12 of 48: odds(4, 0, 0)", x.odds(4, 0, 0), 1);
        DUE.is("12 of 48: odds(4, 0, 1)", x.odds(4, 0, 1), 4);
        x.clock(0, 40);
        DUE.is("8 of 48: odds(4, 0, 1)", x.odds(4, 0, 1), 6);
        NoonLaw y = new NoonLaw();
        y.dream(14, 0, 2);
        y.clock(0, 60 - 47);
        DUE.is("47 on is the last: odds(0, 0, 0)", y.odds(0, 0, 0), 1);
        DUE.is("47 on is the last: odds(0, 0, 1)", y.odds(0, 0, 1), 48);
        y.clock(0, 60 - 48);
        DUE.is("48 on is too far: odds(0, 0, 0)", y.odds(0, 0, 0), 0);
        y.clock(0, 65);
        DUE.is("now is the first: odds(0, 0, 0)", y.odds(0, 0, 0), 1);
        y.clock(0, 66);
        DUE.is("what is over: odds(0, 0, 0)", y.odds(0, 0, 0), 0);
        DUE.is("odds(10, 0, 0)", x.odds(10, 0, 0), Due.BEYOND);
        DUE.is("odds(-1, 0, 0)", x.odds(-1, 0, 0), Due.BEYOND);
        DUE.is("odds(0, 2, 0)", x.odds(0, 2, 0), Due.BEYOND);
        DUE.is("odds(0, -2, 0)", x.odds(0, -2, 0), Due.BEYOND);
        DUE.is("odds(0, 0, 2)", x.odds(0, 0, 2), Due.BEYOND);
        DUE.is("odds(0, 0, -1)", x.odds(0, 0, -1), Due.BEYOND);
    }

    private static void fits() {
        NoonLaw x = disputed();
        x.dream(25, 10, 0);
        DUE.is("fits(-1)", x.fits(-1), Due.BEYOND);
        DUE.is("fits(4)", x.fits(4), Due.BEYOND);
        DUE.is("missing: fits(0)", x.fits(0), Due.NONE);
        x.sheet(0, 8, 2);
        x.put(0, 0, 1);
        DUE.is("1, 0 is never: fits(0)", x.fits(0), Due.NONE);
        x.put(0, 0, -1);
        DUE.is("-1, 0: fits(0)", x.fits(0), 14);
        x.put(0, 0, 1);
        x.put(0, 1, -1);
        DUE.is("1, -1: fits(0)", x.fits(0), 12);
        x.put(0, 1, 255);
        DUE.is("255 in 8 bits is -1: fits(0)", x.fits(0), 12);
        x.clock(0, 13);
        DUE.is("from 13: fits(0)", x.fits(0), 0);
        x.clock(0, 14);
        DUE.is("from 14: fits(0)", x.fits(0), 5);
        x.sheet(1, 16, 10);
        for (int i = 0; i < 10; i++) {
            x.put(1, i, -1);
        }
        x.clock(0, 0);
        DUE.is("ten: fits(1)", x.fits(1), 0);
        x.sheet(1, 16, 11);
        for (int i = 0; i < 11; i++) {
            x.put(1, i, -1);
        }
        DUE.is("eleven: fits(1)", x.fits(1), Due.NONE);
        x.sheet(1, 32, 0);
        DUE.is("none at all: fits(1)", x.fits(1), 0);
        x.dream(0, 20, 11);
        x.sheet(1, 32, 3);
        x.put(1, 0, -1);
        x.put(1, 1, -1);
        x.clock(0, 24 * 11 + 12 - 240);
        DUE.is("240 is near enough: fits(1)", x.fits(1), 240);
        x.clock(0, 24 * 11 + 12 - 241);
        DUE.is("241 is not: fits(1)", x.fits(1), Due.NONE);
    }

    /** At 9999 it is 15 of a day; the hours behind it are thought of all the same. */
    private static void beyondTheLastHour() {
        NoonLaw x = new NoonLaw();
        x.dream(30, 1, 0);
        x.dream(39, 10, 7);
        x.dream(30, 20, 0);
        x.dream(30, 21, 0);
        x.person(0);
        x.clock(0, 9999);
        DUE.is("at 9999: first(0, 1)", x.first(0, 1), 0);
        DUE.is("at 9999: first(0, -1)", x.first(0, -1), 7);
        DUE.is("at 9999: first(1, 0)", x.first(1, 0), 21);
        DUE.is("at 9999: rule(0, 240)", x.rule(0, 240), 1);
        DUE.is("at 9999: rule(1, 30)", x.rule(1, 30), 0);
        DUE.is("at 9999: rule(1, 31)", x.rule(1, 31), -1);
        DUE.is("at 9999: siestas(1)", x.siestas(1), 1);
        DUE.is("at 9999: siestas(240)", x.siestas(240), 100);
        DUE.is("at 9999: then(0, 22)", x.then(0, 22), 8);
        x.dream(39, 31, 7);
        DUE.is("at 9999: best(21, 0)", x.best(21, 0), 1);
        DUE.is("at 9999: best(22, 0)", x.best(22, 0), 9);
        DUE.is("at 9999: best(22, 1)", x.best(22, 1), 0);
        DUE.is("at 9999: fewest(1, 21, 0)", x.fewest(1, 21, 0), 0);
        DUE.is("at 9999: fewest(1, 22, 1)", x.fewest(1, 22, 1), 2);
        DUE.is("at 9999: odds(0, 1, 0)", x.odds(0, 1, 0), 5);
        DUE.is("at 9999: odds(0, 1, 1)", x.odds(0, 1, 1), 12);
        x.sheet(0, 8, 2);
        x.put(0, 0, 1);
        DUE.is("at 9999: fits(0)", x.fits(0), 21);
        DUE.is("HOUR stays: count(2)", x.count(2), 9999);
    }

    /** How many DAYS on counts as of the hour thought of: banned on day 0, bidden on day 10, by the same DREAMS. */
    private static void weightsOfThatHour() {
        NoonLaw x = new NoonLaw();
        x.dream(30, 1, 0);
        x.dream(39, 0, 0);
        x.dream(5, 11, 3);
        x.dream(5, 10, 3);
        DUE.is("a WEIGHT by DAYS on", Due.text(x, 1, "d*(m=0)+4*(m=9)"), 1);
        x.person(1);
        x.clock(0, 12);
        DUE.is("rule(0, 0)", x.rule(0, 0), 0);
        DUE.is("rule(0, 24)", x.rule(0, 24), 1);
        DUE.is("rule(0, 240)", x.rule(0, 240), 1);
        DUE.is("now(3)", x.now(3), 1);
        DUE.is("then(0, 10)", x.then(0, 10), 10);
        DUE.is("then(0, 240)", x.then(0, 240), 10);
        DUE.is("fewest(0, 1, 1)", x.fewest(0, 1, 1), 3);
        DUE.is("fewest(0, 240, 1)", x.fewest(0, 240, 1), 3);
        x.clock(0, 252);
        DUE.is("on day 10: rule(0, 0)", x.rule(0, 0), 1);
        DUE.is("on day 10: now(3)", x.now(3), 1);
        x.clock(0, 72);
        DUE.is("on day 3, alike: rule(1, 12)", x.rule(1, 12), -1);
        DUE.is("on day 3, alike: siestas(24)", x.siestas(24), 10);
    }

    private static void onlyThought() {
        NoonLaw x = disputed();
        x.person(0);
        x.then(0, 240);
        x.first(0, 1);
        x.siestas(240);
        x.best(240, 0);
        x.fewest(0, 240, 0);
        x.odds(0, 1, 0);
        DUE.is("count(2)", x.count(2), 0);
        DUE.is("personIs(0, 0)", x.personIs(0, 0), 0);
        DUE.is("personIs(0, 1)", x.personIs(0, 1), 0);
        for (int i = 0; i < 3; i++) {
            DUE.is("dreamIs(" + i + ", 5)", x.dreamIs(i, 5), 0);
        }
    }
}
