/** Calls of the program by their names, so that tests can hold them in rows. */
final class Calls {
    private Calls() {
    }

    static int of(NoonLaw law, String name, long... a) {
        int i0 = a.length > 0 ? (int) a[0] : 0;
        int i1 = a.length > 1 ? (int) a[1] : 0;
        int i2 = a.length > 2 ? (int) a[2] : 0;
        int i3 = a.length > 3 ? (int) a[3] : 0;
        int i4 = a.length > 4 ? (int) a[4] : 0;
        return switch (name) {
            case "dream" -> law.dream(i0, i1, i2);
            case "dreamIs" -> law.dreamIs(i0, i1);
            case "become" -> law.become(i0, i1);
            case "as" -> law.as(i0, i1);
            case "forgets" -> law.forgets(i0, i1);
            case "person" -> law.person(i0);
            case "personIs" -> law.personIs(i0, i1);
            case "takesTo" -> law.takesTo(i0, i1);
            case "clock" -> law.clock(i0, i1);
            case "feed" -> law.feed(a[0], i1);
            case "text" -> law.text(i0);
            case "untell" -> law.untell(i0);
            case "law" -> law.law(i0, i1, i2, i3);
            case "hours" -> law.hours(i0);
            case "loose" -> law.loose(i0);
            case "seed" -> law.seed(i0);
            case "rule" -> law.rule(i0, i1);
            case "now" -> law.now(i0);
            case "then" -> law.then(i0, i1);
            case "first" -> law.first(i0, i1);
            case "siestas" -> law.siestas(i0);
            case "best" -> law.best(i0, i1);
            case "fewest" -> law.fewest(i0, i1, i2);
            case "odds" -> law.odds(i0, i1, i2);
            case "fits" -> law.fits(i0);
            case "voice" -> law.voice(i0, i1, i2);
            case "body" -> law.body(i0);
            case "sheet" -> law.sheet(i0, i1, i2);
            case "put" -> law.put(i0, i1, i2);
            case "move" -> law.move(i0, i1, i2, i3, i4);
            case "wonts" -> law.wonts(i0);
            case "judge" -> law.judge(i0);
            case "image" -> law.image();
            case "restore" -> law.restore();
            case "tell" -> law.tell(i0);
            case "check" -> law.check();
            case "count" -> law.count(i0);
            case "told" -> law.told(i0);
            default -> throw new IllegalStateException(name);
        };
    }
}
