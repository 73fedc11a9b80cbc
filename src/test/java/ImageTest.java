/** Promises 34 to 39: images, and what is told. */
final class ImageTest {
    private static final Due DUE = new Due("ImageTest");

    public static void main(String[] args) {
        image();
        notInIt();
        anewBehindIt();
        everythingInIt();
        tell();
        check();
        count();
        told();
        errorsChangeNothing();
        DUE.end();
    }

    private static NoonLaw full() {
        NoonLaw x = new NoonLaw();
        x.dream(5, 1, 0);
        x.dream(13, 0, 0);
        x.person(3);
        x.clock(0, 12);
        x.clock(1, 20);
        Due.text(x, 0, "g+1");
        Due.feed(x, "g+7");
        x.seed(9);
        x.tell(6);
        return x;
    }

    private static void image() {
        NoonLaw x = full();
        DUE.is("restore() ahead of an image", x.restore(), Due.NONE);
        DUE.is("image()", x.image(), 1);
        x.become(0, 69);
        x.forgets(1, 1);
        x.dream(0, 0, 0);
        x.takesTo(0, 9);
        x.person(0);
        x.hours(20);
        x.clock(1, 24);
        x.text(1);
        Due.text(x, 0, "5");
        Due.text(x, 1, "6");
        x.seed(1);
        x.check();
        DUE.is("restore()", x.restore(), 12);
        int[] counts = {2, 1, 12, 20, 3, 1, 0, 9};
        for (int i = 0; i < 8; i++) {
            DUE.is("restored: count(" + i + ")", x.count(i), counts[i]);
        }
        int[] dream = {0, 5, 0, 1, 0, 0, 1, 5};
        for (int i = 0; i < 8; i++) {
            DUE.is("restored: dreamIs(0, " + i + ")", x.dreamIs(0, i), dream[i]);
        }
        DUE.is("restored: dreamIs(1, 5)", x.dreamIs(1, 5), 0);
        DUE.is("restored: personIs(0, 0)", x.personIs(0, 0), 3);
        DUE.is("restored: personIs(0, 1)", x.personIs(0, 1), 0);
        DUE.is("restored: law(0, 1, 0, 0)", x.law(0, 1, 0, 0), 2);
        DUE.is("restored: untell(1)", x.untell(1), 0);
        DUE.is("restored: what waits", x.check(), 1);
        DUE.is("restored: text(0)", x.text(0), 1);
        DUE.is("restored: law(0, 1, 0, 0)", x.law(0, 1, 0, 0), 8);
        x.hours(1);
        DUE.is("the IMAGE stays: restore()", x.restore(), 12);
        DUE.is("the IMAGE stays: law(0, 1, 0, 0)", x.law(0, 1, 0, 0), 2);
        x.clock(0, 77);
        DUE.is("image() again", x.image(), 2);
        x.clock(0, 5);
        DUE.is("in place of the one ahead: restore()", x.restore(), 77);
        DUE.is("how often isn't in it: image()", x.image(), 3);
    }

    private static void notInIt() {
        NoonLaw x = full();
        x.sheet(0, 8, 1);
        x.put(0, 0, 1);
        x.voice(0, 0, 1);
        x.image();
        x.sheet(0, 8, 2);
        x.put(0, 0, 1);
        x.put(0, 1, -1);
        x.voice(0, 1, 1);
        x.now(9);
        x.body(9);
        x.restore();
        DUE.is("SHEETS are not in it: judge(0)", x.judge(0), 2);
        DUE.is("THE TRACE is not in it: count(6)", x.count(6), 2);
        DUE.is("THE TRACE is not in it: body(0)", x.body(0), 11);
        DUE.is("what told() tells is not in it: told(1)", x.told(1), 1);
        DUE.is("what told() tells is not in it: told(2)", x.told(2), 1);
    }

    /** What is made behind restore() is as at first, though something else stood in its place. */
    private static void anewBehindIt() {
        NoonLaw x = new NoonLaw();
        DUE.is("the image of nothing", x.image(), 1);
        x.dream(49, 31, 7);
        x.forgets(0, 1);
        x.person(1023);
        Due.text(x, 0, "99");
        x.hours(2);
        x.tell(5);
        DUE.is("restore() to nothing", x.restore(), 0);
        DUE.is("nobody: personIs(0, 0)", x.personIs(0, 0), Due.BEYOND);
        DUE.is("no DREAM: dreamIs(0, 0)", x.dreamIs(0, 0), Due.BEYOND);
        DUE.is("no TEXT: untell(0)", x.untell(0), 0);
        DUE.is("dream(5, 1, 0)", x.dream(5, 1, 0), 0);
        int[] dream = {0, 5, 0, 1, 0, 0, 0, 5};
        for (int what = 0; what < dream.length; what++) {
            DUE.is("anew: dreamIs(0, " + what + ")", x.dreamIs(0, what), dream[what]);
        }
        DUE.is("person(6)", x.person(6), 0);
        DUE.is("anew: personIs(0, 0)", x.personIs(0, 0), 6);
        DUE.is("anew: personIs(0, 1)", x.personIs(0, 1), 0);
        DUE.is("tell(0)", x.tell(0), 1);
        DUE.is("check()", x.check(), 0);
    }

    /** An object that is full comes back whole, and its numbers, bytes and names in their order. */
    private static void everythingInIt() {
        NoonLaw x = World.full(false);
        String seen = World.look(x);
        x.image();
        x.check();
        for (int i = 0; i < 24; i++) {
            x.tell(-i);
        }
        Due.feed(x, "+5");
        x.text(1);
        Due.feed(x, "9".repeat(60));
        for (int i = 0; i < World.DREAMS; i++) {
            x.become(i, 69 - i);
            x.forgets(i, 1 - x.dreamIs(i, 5));
        }
        for (int i = 0; i < World.PEOPLE; i++) {
            x.takesTo(i, 512);
        }
        x.hours(2);
        x.clock(0, 50);
        x.clock(1, 13);
        x.untell(0);
        x.seed(0);
        DUE.is("restore() of all", x.restore(), World.HOUR);
        DUE.is("all is as it was", seen.equals(World.look(x)) ? 1 : 0, 1);
        DUE.is("what waits is as it was", x.check(), World.PEOPLE + 1);
        DUE.is("THE TAPE is as it was", x.text(0), 1);
        DUE.is("THE TAPE's law", x.law(0, 0, 0, 0), 29);
        DUE.is("the same IMAGE again", x.restore(), World.HOUR);
        DUE.is("what waits, again", x.check(), World.PEOPLE + 1);
        DUE.is("THE TAPE, again", x.text(1), 1);
    }

    private static void tell() {
        NoonLaw x = new NoonLaw();
        for (int i = 1; i <= 24; i++) {
            DUE.is("tell " + i, x.tell(Integer.MIN_VALUE + i), i);
        }
        DUE.is("a 25th", x.tell(0), Due.FULL);
        DUE.is("count(5)", x.count(5), 24);
        x.check();
        DUE.is("count(5)", x.count(5), 0);
        DUE.is("tell(0)", x.tell(0), 1);
    }

    private static void check() {
        NoonLaw x = new NoonLaw();
        x.dream(5, 0, 0);
        x.person(1);
        x.person(0);
        x.clock(0, 12);
        x.hours(4);
        DUE.is("none waits: check()", x.check(), 0);
        x.tell(4);
        DUE.is("the first is so: check()", x.check(), 0);
        x.tell(4);
        x.tell(0);
        DUE.is("both are so: check()", x.check(), 0);
        x.tell(4);
        x.tell(1);
        DUE.is("the second is not so: check()", x.check(), 2);
        DUE.is("none waits any more: count(5)", x.count(5), 0);
        x.tell(3);
        x.tell(1);
        DUE.is("the first is not so: check()", x.check(), 1);
        x.tell(4);
        x.tell(0);
        x.tell(0);
        DUE.is("there is nobody: check()", x.check(), 3);
        x.tell(0);
        x.tell(0);
        x.tell(0);
        DUE.is("the first that isn't so, of three: check()", x.check(), 1);
        NoonLaw none = new NoonLaw();
        none.tell(0);
        DUE.is("nobody at all: check()", none.check(), 1);
        NoonLaw wild = new NoonLaw();
        wild.person(0);
        wild.tell(Integer.MIN_VALUE);
        DUE.is("MIN is nobody's: check()", wild.check(), 1);
        wild.tell(65536);
        DUE.is("no bits are lost: check()", wild.check(), 1);
        NoonLaw six = new NoonLaw();
        for (int i = 0; i < 6; i++) {
            six.person(0);
            six.tell(0);
        }
        six.tell(0);
        DUE.is("six are so, of a seventh there is nobody: check()", six.check(), 7);
        DUE.is("none waits any more: check()", x.check(), 0);
    }

    private static void count() {
        NoonLaw x = full();
        x.voice(0, 2, 1);
        int[] due = {2, 1, 12, 20, 3, 1, 3, 9};
        for (int i = 0; i < 8; i++) {
            DUE.is("count(" + i + ")", x.count(i), due[i]);
        }
        DUE.is("count(8)", x.count(8), Due.BEYOND);
        DUE.is("count(-1)", x.count(-1), Due.BEYOND);
    }

    private static void told() {
        NoonLaw x = new NoonLaw();
        x.dream(0, 0, 0);
        x.dream(1, 0, 0);
        x.now(4);
        x.now(4);
        x.restore();
        x.sheet(0, 8, -1);
        for (int i = 0; i < 6; i++) {
            x.person(0);
        }
        for (int i = 0; i < 4; i++) {
            x.person(0);
        }
        x.as(0, 1);
        x.as(0, 2);
        x.as(0, 3);
        x.voice(1, 3, 1);
        x.voice(0, 3, 1);
        int[] due = {2, 1, 1, 4, 3, 2};
        for (int k = 1; k <= 6; k++) {
            DUE.is("told(" + k + ")", x.told(k), due[k - 1]);
        }
        DUE.is("told(0)", x.told(0), Due.BEYOND);
        DUE.is("told(7)", x.told(7), Due.BEYOND);
        DUE.is("told(-1)", x.told(-1), Due.BEYOND);
        DUE.is("counted, too: told(1)", x.told(1), 5);
    }

    /** Every act with an argument beyond all bounds leaves what count() and the laws tell as it was. */
    private static void errorsChangeNothing() {
        int[] wild = {-1, 1 << 30, Integer.MIN_VALUE, Integer.MAX_VALUE};
        for (int w : wild) {
            NoonLaw x = full();
            x.sheet(0, 8, 3);
            int[] answers = {x.dream(w, w, w), x.dreamIs(w, w), x.become(w, w), x.as(w, w), x.forgets(w, w), x.person(w),
                x.personIs(w, w), x.takesTo(w, w), x.clock(w, w), x.feed(w, w), x.text(w), x.untell(w), x.law(w, w, w, w),
                x.hours(w), x.loose(w), x.rule(w, w), x.now(w), x.then(w, w), x.first(w, w), x.siestas(w), x.best(w, w),
                x.fewest(w, w, w), x.odds(w, w, w), x.fits(w), x.voice(w, w, w), x.sheet(w, w, w), x.put(w, w, w),
                x.move(w, w, w, w, w), x.wonts(w), x.judge(w), x.count(w), x.told(w)};
            for (int i = 0; i < answers.length; i++) {
                DUE.is("act " + i + " of " + w, answers[i], Due.BEYOND);
            }
            DUE.is("body(" + w + ")", x.body(w), Due.NONE);
            DUE.is("told(1)", x.told(1), answers.length);
            int[] due = {2, 1, 12, 20, 3, 1, 0, 9};
            for (int i = 0; i < 8; i++) {
                DUE.is("count(" + i + ") behind " + w, x.count(i), due[i]);
            }
            DUE.is("personIs(0, 0)", x.personIs(0, 0), 3);
            DUE.is("law(0, 3, 0, 0)", x.law(0, 3, 0, 0), 4);
        }
    }
}
