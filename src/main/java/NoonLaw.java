/** The king's dreams as law: what DOC.md promises, call by call. */
public final class NoonLaw {
    private static final int LOW = -1000000000;
    private static final int BEYOND = 1;
    private static final int NONE = 2;
    private static final int STATE = 3;
    private static final int FULL = 4;
    private static final int KIND = 5;
    private static final int PARTED = 6;

    private static final int DREAMS = 9;
    private static final int PEOPLE = 6;
    private static final int MATTERS = 10;
    private static final int KINDS = 7;
    private static final int VOICES = 4;
    private static final int USES = 2;
    private static final int SHEETS = 4;
    private static final int BYTES = 60;
    private static final int NUMBERS = 24;
    private static final int WAITING = 24;
    private static final int BODIES = 30;

    private static final int DAY_HOURS = 24;
    private static final int NOON = 12;
    private static final int NAP_HOUR = 14;
    private static final int LAST_HOUR = 9999;
    private static final int LAST_DAY = 99;
    private static final int MOST_FINED = 9999;
    private static final int FARTHEST = 240;
    private static final int MOST_LOOSE = 48;
    private static final int ODDS_HOURS = 48;
    private static final int ALL_MATTERS = 1023;

    private static final int NIGHTMARE = 1;
    private static final int NAP = 2;
    private static final int RECURRING = 3;
    private static final int FALLING = 4;
    private static final int DOZE = 5;
    private static final int BLANK = 6;
    /** Of each KIND the one that it is under; none is above DREAM. */
    private static final int[] ABOVE = {-1, 0, 0, 0, 1, 2, 0};

    private static final int FINE = 0;
    private static final int WEIGHT = 1;
    /** Below every WEIGHT, so that a side without DREAMS loses, and two such are alike. */
    private static final int NO_WEIGHT = -1000;

    private static final int MUTTERS = 0;
    private static final int SIGHS = 1;
    private static final int SNORES = 2;
    private static final int PARTS = 3;
    /** By KIND, and in it by VOICE, the number of the BODY; 0: the KIND has none. */
    private static final int[] BODY_OF = {
        10, 11, 12, 13,
        20, 0, 0, 21,
        0, 30, 0, 0,
        0, 0, 40, 0,
        50, 0, 51, 0,
        0, 60, 0, 0,
        70, 71, 0, 0};
    /** No VOICE goes through as many BODIES: a guard, not a limit of the document. */
    private static final int DEEPEST = 20;

    /** The NAMES of each USE in order, three by three. */
    private static final char[] NAMES = {'g', 'h', 'n', 'k', 'm', 'd'};
    private static final int NAMES_EACH = 3;
    private static final int MOST_OPEN = 5;
    private static final int MOST_DIGITS = 4;
    /** Codes of a TEXT: a number is itself, a NAME and a sign stand above all numbers. */
    private static final int NAME_CODE = 10000;
    private static final int SIGN_CODE = 20000;
    private static final int COMPARING = 2;
    private static final int UNIT = 5;
    private static final int NO_SIGN = -1;

    private final Realm realm = new Realm();
    private final Realm kept = new Realm();
    private int images;
    private final Sheet[] sheets = new Sheet[SHEETS];
    private final Speaker speaker = new Speaker();
    private final TextReader reader = new TextReader();
    private final Sight sight = new Sight();
    private final int[] refused = new int[PARTED + 1];
    private final int[] bannedHours = new int[MATTERS];
    private final int[] biddenHours = new int[MATTERS];

    public NoonLaw() {
        for (int i = 0; i < SHEETS; i++) {
            sheets[i] = new Sheet();
        }
    }

    // ---- dreams, people

    public int dream(int km, int mb, int day) {
        if (!isKindAndNumber(km) || !isMatterAndSide(mb) || !within(day, 0, LAST_DAY)) {
            return refuse(BEYOND);
        }
        int number = realm.addDream(km, mb, day);
        return number < 0 ? refuse(FULL) : number;
    }

    public int dreamIs(int dream, int what) {
        if (!isDream(dream) || !within(what, 0, 7)) {
            return refuse(BEYOND);
        }
        Dream it = realm.dreams[dream];
        switch (what) {
            case 0:
                return it.kind;
            case 1:
                return it.m;
            case 2:
                return it.matter;
            case 3:
                return it.bids;
            case 4:
                return it.day;
            case 5:
                return it.forgotten;
            case 6:
                return it.isInForce(realm.hour, realm.sleep) ? 1 : 0;
            default:
                return realm.weight(it, realm.hour);
        }
    }

    public int become(int dream, int km) {
        if (!isDream(dream) || !isKindAndNumber(km)) {
            return refuse(BEYOND);
        }
        Dream it = realm.dreams[dream];
        int was = it.kind;
        it.kind = km / 10;
        it.m = km % 10;
        return was;
    }

    public int as(int dream, int kind) {
        if (!isDream(dream) || !within(kind, 0, KINDS - 1)) {
            return refuse(BEYOND);
        }
        Dream it = realm.dreams[dream];
        return it.isOf(kind) ? it.m : refuse(KIND);
    }

    public int forgets(int dream, int is) {
        if (!isDream(dream) || !within(is, 0, 1)) {
            return refuse(BEYOND);
        }
        Dream it = realm.dreams[dream];
        int was = it.forgotten;
        it.forgotten = is;
        return was;
    }

    public int person(int wont) {
        if (!within(wont, 0, ALL_MATTERS)) {
            return refuse(BEYOND);
        }
        int number = realm.addPerson(wont);
        return number < 0 ? refuse(FULL) : number;
    }

    public int personIs(int person, int what) {
        if (!isPerson(person) || !within(what, 0, 3)) {
            return refuse(BEYOND);
        }
        Person it = realm.people[person];
        switch (what) {
            case 0:
                return it.wont;
            case 1:
                return it.fined;
            case 2:
                sight.look(realm, realm.hour);
                return sight.guilt(it.wont);
            default:
                sight.look(realm, realm.hour);
                return realm.fine(it, person, sight);
        }
    }

    public int takesTo(int person, int wont) {
        if (!isPerson(person) || !within(wont, 0, ALL_MATTERS)) {
            return refuse(BEYOND);
        }
        Person it = realm.people[person];
        int was = it.wont;
        it.wont = wont;
        return was;
    }

    public int clock(int what, int v) {
        int was;
        if (what == 0 && within(v, 0, LAST_HOUR)) {
            was = realm.hour;
            realm.hour = v;
        } else if (what == 1 && within(v, 13, 24)) {
            was = realm.sleep;
            realm.sleep = v;
        } else {
            was = refuse(BEYOND);
        }
        return was;
    }

    // ---- texts

    public int feed(long word, int n) {
        if (!within(n, 1, 8)) {
            return refuse(BEYOND);
        }
        if (n > BYTES - realm.tapeCount) {
            return refuse(FULL);
        }
        for (int i = 0; i < n; i++) {
            realm.tape[realm.tapeCount] = (byte) (word >>> (8 * i));
            realm.tapeCount++;
        }
        return realm.tapeCount;
    }

    public int text(int use) {
        if (!isUse(use)) {
            return refuse(BEYOND);
        }
        boolean whole = reader.readsWhole(realm.tape, realm.tapeCount, use);
        realm.tapeCount = 0;
        if (!whole) {
            return -10 - reader.place;
        }
        realm.texts[use].take(reader.codes, reader.length);
        return 1;
    }

    public int untell(int use) {
        if (!isUse(use)) {
            return refuse(BEYOND);
        }
        Text it = realm.texts[use];
        int was = it.stands ? 1 : 0;
        it.stands = false;
        return was;
    }

    public int law(int use, int a, int b, int c) {
        if (!isUse(use)) {
            return refuse(BEYOND);
        }
        return realm.gives(use, a, b, c);
    }

    // ---- hours

    public int hours(int n) {
        if (!within(n, 1, FARTHEST)) {
            return refuse(BEYOND);
        }
        if (realm.hour > LAST_HOUR - n) {
            return refuse(STATE);
        }
        for (int i = 0; i < n; i++) {
            realm.goAnHour(sight);
        }
        return realm.hour;
    }

    public int loose(int n) {
        if (!within(n, 1, MOST_LOOSE)) {
            return refuse(BEYOND);
        }
        if (realm.hour > LAST_HOUR - n) {
            return refuse(STATE);
        }
        for (int i = 0; i < n; i++) {
            realm.dreamByDraws();
            realm.goAnHour(sight);
        }
        return realm.dreamCount;
    }

    public int seed(int v) {
        int was = realm.z;
        realm.z = v;
        return was;
    }

    // ---- what is, what would be

    public int rule(int matter, int n) {
        if (!isMatter(matter) || !within(n, 0, FARTHEST)) {
            return refuse(BEYOND);
        }
        sight.look(realm, realm.hour + n);
        return sight.under(matter);
    }

    public int now(int what) {
        if (!within(what, 0, 3)) {
            return refuse(BEYOND);
        }
        sight.look(realm, realm.hour);
        switch (what) {
            case 0:
                return sight.inForce;
            case 1:
                return sight.bidden;
            case 2:
                return sight.banned;
            default:
                return Integer.bitCount(sight.disputed);
        }
    }

    public int then(int person, int n) {
        if (!isPerson(person) || !within(n, 0, FARTHEST)) {
            return refuse(BEYOND);
        }
        Person it = realm.people[person];
        int fined = it.fined;
        for (int i = 0; i < n; i++) {
            sight.look(realm, realm.hour + i);
            fined = Math.min(MOST_FINED, fined + realm.fine(it, person, sight));
        }
        return fined;
    }

    public int first(int matter, int rule) {
        if (!isMatter(matter) || !within(rule, -1, 1)) {
            return refuse(BEYOND);
        }
        for (int i = 0; i <= FARTHEST; i++) {
            sight.look(realm, realm.hour + i);
            if (sight.under(matter) == rule) {
                return i;
            }
        }
        return refuse(NONE);
    }

    public int siestas(int n) {
        if (!within(n, 0, FARTHEST)) {
            return refuse(BEYOND);
        }
        int found = 0;
        for (int i = 0; i < n; i++) {
            sight.look(realm, realm.hour + i);
            if (sight.disputed != 0) {
                found++;
            }
        }
        return found;
    }

    public int best(int n, int what) {
        if (!within(n, 0, FARTHEST) || !within(what, 0, 1)) {
            return refuse(BEYOND);
        }
        countRules(n);
        int wont = 0;
        int guilt = 0;
        for (int matter = 0; matter < MATTERS; matter++) {
            // of wonts with like guilt the least is asked: only a gain puts a matter in
            if (bannedHours[matter] < biddenHours[matter]) {
                wont |= 1 << matter;
            }
            guilt += Math.min(bannedHours[matter], biddenHours[matter]);
        }
        return what == 0 ? wont : guilt;
    }

    public int fewest(int matter, int n, int what) {
        if (!isMatter(matter) || !within(n, 1, FARTHEST) || !within(what, 0, 1)) {
            return refuse(BEYOND);
        }
        int set = fewestForgotten(matter, n);
        return what == 0 ? Integer.bitCount(set) : set;
    }

    public int odds(int matter, int rule, int part) {
        if (!isMatter(matter) || !within(rule, -1, 1) || !within(part, 0, 1)) {
            return refuse(BEYOND);
        }
        int found = 0;
        for (int i = 0; i < ODDS_HOURS; i++) {
            sight.look(realm, realm.hour + i);
            if (sight.under(matter) == rule) {
                found++;
            }
        }
        int common = commonDivisor(found, ODDS_HOURS);
        return (part == 0 ? found : ODDS_HOURS) / common;
    }

    public int fits(int sheet) {
        if (!isSheet(sheet)) {
            return refuse(BEYOND);
        }
        Sheet it = sheets[sheet];
        if (it.bits == 0 || it.length > MATTERS) {
            return refuse(NONE);
        }
        for (int i = 0; i <= FARTHEST; i++) {
            sight.look(realm, realm.hour + i);
            if (rightOf(it) == it.length) {
                return i;
            }
        }
        return refuse(NONE);
    }

    // ---- voices, sheets, images, what is told

    public int voice(int dream, int voice, int x) {
        if (!isDream(dream) || !within(voice, 0, VOICES - 1)) {
            return refuse(BEYOND);
        }
        int answer = speaker.speaks(realm.dreams[dream], dream, voice, x);
        return speaker.parted ? refuse(PARTED) : answer;
    }

    public int body(int i) {
        if (!within(i, 0, speaker.length - 1)) {
            return refuse(NONE);
        }
        return speaker.trace[i];
    }

    public int sheet(int sheet, int bits, int n) {
        if (!isSheet(sheet) || bits != 0 && bits != 8 && bits != 16 && bits != 32) {
            return refuse(BEYOND);
        }
        if (bits != 0 && n < 0) {
            return refuse(STATE);
        }
        if (bits != 0 && n > NUMBERS) {
            return refuse(BEYOND);
        }
        sheets[sheet].renew(bits, bits == 0 ? 0 : n);
        return 1;
    }

    public int put(int sheet, int i, int v) {
        if (!isSheet(sheet)) {
            return refuse(BEYOND);
        }
        Sheet it = sheets[sheet];
        if (it.bits == 0) {
            return refuse(NONE);
        }
        if (!within(i, 0, it.length - 1)) {
            return refuse(BEYOND);
        }
        it.write(i, v);
        return 1;
    }

    public int move(int sheet, int i, int other, int j, int n) {
        if (!isSheet(sheet) || !isSheet(other)) {
            return refuse(BEYOND);
        }
        Sheet from = sheets[sheet];
        Sheet to = sheets[other];
        if (from.bits == 0 || to.bits == 0) {
            return refuse(NONE);
        }
        if (from.bits != to.bits) {
            return refuse(KIND);
        }
        if (!from.holds(i, n) || !to.holds(j, n)) {
            return refuse(BEYOND);
        }
        System.arraycopy(from.numbers, i, to.numbers, j, n);
        return n;
    }

    public int wonts(int sheet) {
        if (!isSheet(sheet)) {
            return refuse(BEYOND);
        }
        Sheet it = sheets[sheet];
        if (it.bits == 0) {
            return refuse(NONE);
        }
        int most = Math.min(it.length, realm.peopleCount);
        int done = 0;
        while (done < most && within(it.numbers[done], 0, ALL_MATTERS)) {
            realm.people[done].wont = it.numbers[done];
            done++;
        }
        return done;
    }

    public int judge(int sheet) {
        if (!isSheet(sheet)) {
            return refuse(BEYOND);
        }
        if (sheets[sheet].bits == 0) {
            return refuse(NONE);
        }
        sight.look(realm, realm.hour);
        return rightOf(sheets[sheet]);
    }

    public int image() {
        kept.takeAll(realm);
        images++;
        return images;
    }

    public int restore() {
        if (images == 0) {
            return refuse(NONE);
        }
        realm.takeAll(kept);
        return realm.hour;
    }

    public int tell(int v) {
        if (realm.waitingCount >= WAITING) {
            return refuse(FULL);
        }
        realm.waiting[realm.waitingCount] = v;
        realm.waitingCount++;
        return realm.waitingCount;
    }

    public int check() {
        int count = realm.waitingCount;
        realm.waitingCount = 0;
        for (int i = 0; i < count; i++) {
            if (i >= realm.peopleCount || realm.people[i].fined != realm.waiting[i]) {
                return 1 + i;
            }
        }
        return 0;
    }

    public int count(int what) {
        switch (what) {
            case 0:
                return realm.dreamCount;
            case 1:
                return realm.peopleCount;
            case 2:
                return realm.hour;
            case 3:
                return realm.sleep;
            case 4:
                return realm.tapeCount;
            case 5:
                return realm.waitingCount;
            case 6:
                return speaker.length;
            case 7:
                return realm.z;
            default:
                return refuse(BEYOND);
        }
    }

    public int told(int k) {
        if (!within(k, BEYOND, PARTED)) {
            return refuse(BEYOND);
        }
        return refused[k];
    }

    // ---- what the calls share

    private int refuse(int error) {
        refused[error]++;
        return LOW - error;
    }

    private static boolean within(int v, int least, int most) {
        return v >= least && v <= most;
    }

    private static boolean isKindAndNumber(int km) {
        return within(km, 0, 10 * KINDS - 1);
    }

    private static boolean isMatterAndSide(int mb) {
        return within(mb, 0, 10 * MATTERS - 1) && mb % 10 <= 1;
    }

    private static boolean isMatter(int matter) {
        return within(matter, 0, MATTERS - 1);
    }

    private static boolean isUse(int use) {
        return within(use, 0, USES - 1);
    }

    private static boolean isSheet(int sheet) {
        return within(sheet, 0, SHEETS - 1);
    }

    private static int above(int kind) {
        return within(kind, 0, KINDS - 1) ? ABOVE[kind] : -1;
    }

    private boolean isDream(int dream) {
        return within(dream, 0, realm.dreamCount - 1);
    }

    private boolean isPerson(int person) {
        return within(person, 0, realm.peopleCount - 1);
    }

    /** How many numbers are right from the first on, at the hour last looked at. */
    private int rightOf(Sheet it) {
        int most = Math.min(it.length, MATTERS);
        int right = 0;
        while (right < most && it.numbers[right] == sight.under(right)) {
            right++;
        }
        return right;
    }

    private void countRules(int n) {
        for (int matter = 0; matter < MATTERS; matter++) {
            bannedHours[matter] = 0;
            biddenHours[matter] = 0;
        }
        for (int i = 0; i < n; i++) {
            sight.look(realm, realm.hour + i);
            for (int matter = 0; matter < MATTERS; matter++) {
                bannedHours[matter] += (sight.banned >> matter) & 1;
                biddenHours[matter] += (sight.bidden >> matter) & 1;
            }
        }
    }

    /**
     * A DREAM that outweighs the whole other side must be part of every set that does, whatever else
     * is in it: so what must be grows from nothing, and is the one least set when it grows no more.
     */
    private int fewestForgotten(int matter, int n) {
        int set = 0;
        for (int round = 0; round <= DREAMS; round++) {
            int before = set;
            for (int i = 0; i < n; i++) {
                sight.look(realm, realm.hour + i);
                set |= sight.outweighing(realm, matter, set);
            }
            if (set == before) {
                return set;
            }
        }
        return set;
    }

    /** The greatest number that divides both; b is above 0, so the answer is, too. */
    private static int commonDivisor(int a, int b) {
        for (int by = b; by > 1; by--) {
            if (a % by == 0 && b % by == 0) {
                return by;
            }
        }
        return 1;
    }

    /** One DREAM. */
    private static final class Dream {
        int kind;
        int m;
        int matter;
        int bids;
        int day;
        int forgotten;

        void take(Dream other) {
            kind = other.kind;
            m = other.m;
            matter = other.matter;
            bids = other.bids;
            day = other.day;
            forgotten = other.forgotten;
        }

        boolean isOf(int wanted) {
            int up = kind;
            for (int step = 0; step < KINDS && up >= 0; step++) {
                if (up == wanted) {
                    return true;
                }
                up = above(up);
            }
            return false;
        }

        int daysOn(int hour) {
            return hour / DAY_HOURS - day;
        }

        boolean isInForce(int hour, int sleep) {
            int x = daysOn(hour);
            int y = hour % DAY_HOURS;
            if (forgotten != 0) {
                return false;
            }
            switch (kind) {
                case NIGHTMARE:
                    return isNightmare(x, y, sleep);
                case NAP:
                    return isNap(x, y);
                case RECURRING:
                    return x >= 0 && comesAgain(x, m + 1) && isAwake(y, sleep);
                case FALLING:
                    return isNightmare(x, y, sleep) || x == 0 && y < NOON && y >= NOON - m;
                case DOZE:
                    return isNap(x, y) || x == 1 && y < m;
                case BLANK:
                    return m == 9 && x == 0 && isAwake(y, sleep);
                default:
                    return x == 0 && isAwake(y, sleep);
            }
        }

        private boolean comesAgain(int x, int every) {
            return every > 0 && x % every == 0;
        }

        private boolean isAwake(int y, int sleep) {
            return y >= NOON && y < sleep;
        }

        private boolean isNightmare(int x, int y, int sleep) {
            return x == 0 && isAwake(y, sleep) && y < sleep - m;
        }

        private boolean isNap(int x, int y) {
            return x == 0 && y >= NAP_HOUR && y < NAP_HOUR + m;
        }
    }

    /** One of the PEOPLE. */
    private static final class Person {
        int wont;
        int fined;

        void take(Person other) {
            wont = other.wont;
            fined = other.fined;
        }
    }

    /** All that an IMAGE keeps. */
    private static final class Realm {
        int hour;
        int sleep = 22;
        int z = 1;
        final Dream[] dreams = new Dream[DREAMS];
        int dreamCount;
        final Person[] people = new Person[PEOPLE];
        int peopleCount;
        final Text[] texts = new Text[USES];
        final byte[] tape = new byte[BYTES];
        int tapeCount;
        final int[] waiting = new int[WAITING];
        int waitingCount;

        Realm() {
            for (int i = 0; i < DREAMS; i++) {
                dreams[i] = new Dream();
            }
            for (int i = 0; i < PEOPLE; i++) {
                people[i] = new Person();
            }
            for (int i = 0; i < USES; i++) {
                texts[i] = new Text();
            }
        }

        void takeAll(Realm other) {
            hour = other.hour;
            sleep = other.sleep;
            z = other.z;
            for (int i = 0; i < DREAMS; i++) {
                dreams[i].take(other.dreams[i]);
            }
            dreamCount = other.dreamCount;
            for (int i = 0; i < PEOPLE; i++) {
                people[i].take(other.people[i]);
            }
            peopleCount = other.peopleCount;
            for (int i = 0; i < USES; i++) {
                texts[i].take(other.texts[i].codes, other.texts[i].length);
                texts[i].stands = other.texts[i].stands;
            }
            System.arraycopy(other.tape, 0, tape, 0, BYTES);
            tapeCount = other.tapeCount;
            System.arraycopy(other.waiting, 0, waiting, 0, WAITING);
            waitingCount = other.waitingCount;
        }

        /** The number, or -1 if there is no room. */
        int addDream(int km, int mb, int day) {
            if (dreamCount >= DREAMS) {
                return -1;
            }
            Dream it = dreams[dreamCount];
            it.kind = km / 10;
            it.m = km % 10;
            it.matter = mb / 10;
            it.bids = mb % 10;
            it.day = day;
            it.forgotten = 0;
            dreamCount++;
            return dreamCount - 1;
        }

        /** The number, or -1 if there is no room. */
        int addPerson(int wont) {
            if (peopleCount >= PEOPLE) {
                return -1;
            }
            Person it = people[peopleCount];
            it.wont = wont;
            it.fined = 0;
            peopleCount++;
            return peopleCount - 1;
        }

        int gives(int use, int a, int b, int c) {
            Text it = texts[use];
            if (use == FINE) {
                return held(it.stands ? it.value(a, b, c) : a, 0, 99);
            }
            return it.stands ? held(it.value(a, b, c), -99, 99) : b;
        }

        private static int held(int v, int least, int most) {
            return Math.max(least, Math.min(most, v));
        }

        int weight(Dream it, int at) {
            return gives(WEIGHT, it.kind, it.m, it.daysOn(at));
        }

        int fine(Person it, int number, Sight seen) {
            return gives(FINE, seen.guilt(it.wont), seen.hourOfDay, number);
        }

        void goAnHour(Sight seen) {
            seen.look(this, hour);
            for (int i = 0; i < peopleCount; i++) {
                Person it = people[i];
                it.fined = Math.min(MOST_FINED, it.fined + fine(it, i, seen));
            }
            hour++;
        }

        void dreamByDraws() {
            int next = hour / DAY_HOURS + 1;
            if (hour % DAY_HOURS != sleep % DAY_HOURS || dreamCount >= DREAMS || next > LAST_DAY) {
                return;
            }
            int kind = draw() % KINDS;
            int matter = draw() % MATTERS;
            int last = draw() % 20;
            addDream(10 * kind + last / 2, 10 * matter + last % 2, next);
        }

        private int draw() {
            z = z * 1103515245 + 12345;
            return z >>> 8;
        }
    }

    /** What is law at the HOUR last looked at. */
    private static final class Sight {
        int inForce;
        int bidden;
        int banned;
        int disputed;
        int hourOfDay;
        private final int[] weights = new int[DREAMS];
        private final int[] bid = new int[MATTERS];
        private final int[] ban = new int[MATTERS];

        void look(Realm realm, int hour) {
            hourOfDay = hour % DAY_HOURS;
            inForce = 0;
            for (int matter = 0; matter < MATTERS; matter++) {
                bid[matter] = NO_WEIGHT;
                ban[matter] = NO_WEIGHT;
            }
            for (int i = 0; i < realm.dreamCount; i++) {
                Dream it = realm.dreams[i];
                if (isMatter(it.matter) && it.isInForce(hour, realm.sleep)) {
                    inForce |= 1 << i;
                    weights[i] = realm.weight(it, hour);
                    int[] side = it.bids == 1 ? bid : ban;
                    side[it.matter] = Math.max(side[it.matter], weights[i]);
                }
            }
            weighSides();
        }

        private void weighSides() {
            bidden = 0;
            banned = 0;
            disputed = 0;
            for (int matter = 0; matter < MATTERS; matter++) {
                int bit = 1 << matter;
                if (bid[matter] > ban[matter]) {
                    bidden |= bit;
                }
                if (bid[matter] < ban[matter]) {
                    banned |= bit;
                }
                if (bid[matter] != NO_WEIGHT && ban[matter] != NO_WEIGHT) {
                    disputed |= bit;
                }
            }
        }

        int under(int matter) {
            int bit = 1 << matter;
            if ((bidden & bit) != 0) {
                return 1;
            }
            return (banned & bit) != 0 ? 0 : -1;
        }

        int guilt(int wont) {
            return Integer.bitCount(banned & wont) + Integer.bitCount(bidden & ~wont);
        }

        /** The DREAMS of a MATTER, but for a set, that are heavier than all of the other side. */
        int outweighing(Realm realm, int matter, int set) {
            int mostBid = heaviest(realm, matter, 1, set);
            int mostBan = heaviest(realm, matter, 0, set);
            int found = 0;
            for (int i = 0; i < realm.dreamCount; i++) {
                Dream it = realm.dreams[i];
                int against = it.bids == 1 ? mostBan : mostBid;
                if (isLeft(i, set) && it.matter == matter && weights[i] > against) {
                    found |= 1 << i;
                }
            }
            return found;
        }

        private int heaviest(Realm realm, int matter, int bids, int set) {
            int most = NO_WEIGHT;
            for (int i = 0; i < realm.dreamCount; i++) {
                Dream it = realm.dreams[i];
                if (isLeft(i, set) && it.matter == matter && it.bids == bids) {
                    most = Math.max(most, weights[i]);
                }
            }
            return most;
        }

        private boolean isLeft(int dream, int set) {
            return ((inForce & ~set) >> dream & 1) != 0;
        }
    }

    /** A TEXT as codes for a stack: each sign stands behind what it joins. */
    private static final class Text {
        boolean stands;
        int length;
        final int[] codes = new int[BYTES];
        private final int[] stack = new int[BYTES];

        void take(int[] from, int n) {
            int most = Math.max(0, Math.min(n, Math.min(from.length, BYTES)));
            System.arraycopy(from, 0, codes, 0, most);
            length = most;
            stands = true;
        }

        int value(int a, int b, int c) {
            int top = 0;
            for (int i = 0; i < length; i++) {
                int code = codes[i];
                if (code < SIGN_CODE) {
                    if (top < BYTES) {
                        stack[top] = code < NAME_CODE ? code : named(code - NAME_CODE, a, b, c);
                        top++;
                    }
                } else if (code == SIGN_CODE + '!') {
                    if (top >= 1) {
                        stack[top - 1] = stack[top - 1] == 0 ? 1 : 0;
                    }
                } else if (top >= 2) {
                    top--;
                    stack[top - 1] = joined(code - SIGN_CODE, stack[top - 1], stack[top]);
                }
            }
            return top > 0 ? stack[0] : 0;
        }

        private static int named(int place, int a, int b, int c) {
            if (place == 0) {
                return a;
            }
            return place == 1 ? b : c;
        }

        private static int joined(int sign, int l, int r) {
            switch (sign) {
                case '|':
                    return l != 0 || r != 0 ? 1 : 0;
                case '&':
                    return l != 0 && r != 0 ? 1 : 0;
                case '<':
                    return l < r ? 1 : 0;
                case '=':
                    return l == r ? 1 : 0;
                case '>':
                    return l > r ? 1 : 0;
                case '+':
                    return l + r;
                case '-':
                    return l - r;
                case '*':
                    return l * r;
                case '/':
                    return r == 0 ? 0 : l / r;
                default:
                    return r == 0 ? 0 : l % r;
            }
        }
    }

    /** Reads THE TAPE as a TEXT; it stops at the first byte that can't stand there. */
    private static final class TextReader {
        int place;
        int length;
        final int[] codes = new int[BYTES];
        private final byte[] tape = new byte[BYTES];
        private int size;
        private int use;

        boolean readsWhole(byte[] from, int count, int forUse) {
            size = Math.max(0, Math.min(count, Math.min(from.length, BYTES)));
            System.arraycopy(from, 0, tape, 0, size);
            use = forUse;
            place = 0;
            length = 0;
            return readsLevel(0, 0) && place == size;
        }

        /** A rule of the grammar that joins those of the next level; T is level 0, Q is UNIT. */
        private boolean readsLevel(int level, int open) {
            if (level >= UNIT) {
                return readsUnit(open);
            }
            if (!readsLevel(level + 1, open)) {
                return false;
            }
            int most = level == COMPARING ? 1 : BYTES;
            for (int i = 0; i < most && levelOf(here()) == level; i++) {
                int sign = here();
                place++;
                if (!readsLevel(level + 1, open)) {
                    return false;
                }
                emit(SIGN_CODE + sign);
            }
            return true;
        }

        private boolean readsUnit(int open) {
            int sign = here();
            if (isDigit(sign)) {
                readNumber();
                return true;
            }
            int name = nameOf(sign);
            if (name >= 0) {
                place++;
                emit(NAME_CODE + name);
                return true;
            }
            if (sign != '!' && sign != '(' || open >= MOST_OPEN) {
                return false;
            }
            place++;
            return sign == '!' ? readsNot(open + 1) : readsRest(open + 1);
        }

        private boolean readsNot(int open) {
            if (!readsUnit(open)) {
                return false;
            }
            emit(SIGN_CODE + '!');
            return true;
        }

        private boolean readsRest(int open) {
            if (!readsLevel(0, open) || here() != ')') {
                return false;
            }
            place++;
            return true;
        }

        private void readNumber() {
            int number = 0;
            for (int i = 0; i < MOST_DIGITS && isDigit(here()); i++) {
                number = number * 10 + here() - '0';
                place++;
            }
            emit(number);
        }

        private int here() {
            return place >= 0 && place < size ? tape[place] & 255 : NO_SIGN;
        }

        private void emit(int code) {
            if (length < BYTES) {
                codes[length] = code;
                length++;
            }
        }

        private static boolean isDigit(int sign) {
            return sign >= '0' && sign <= '9';
        }

        private int nameOf(int sign) {
            int ahead = use * NAMES_EACH;
            for (int i = 0; i < NAMES_EACH; i++) {
                if (within(ahead + i, 0, NAMES.length - 1) && NAMES[ahead + i] == sign) {
                    return i;
                }
            }
            return -1;
        }

        private static int levelOf(int sign) {
            switch (sign) {
                case '|':
                    return 0;
                case '&':
                    return 1;
                case '<':
                case '=':
                case '>':
                    return COMPARING;
                case '+':
                case '-':
                    return 3;
                case '*':
                case '/':
                case '%':
                    return 4;
                default:
                    return -1;
            }
        }
    }

    /** The VOICES, and THE TRACE of the latest. */
    private static final class Speaker {
        final int[] trace = new int[BODIES];
        int length;
        boolean parted;
        private int kind;
        private int m;
        private int k;

        int speaks(Dream it, int number, int voice, int x) {
            kind = it.kind;
            m = it.m;
            k = number;
            length = 0;
            parted = false;
            return utter(voice, kind, x, 0);
        }

        /** The VOICE by the first BODY from a KIND upwards; once PARTED no BODY begins any more. */
        private int utter(int voice, int from, int x, int depth) {
            int owner = from;
            for (int step = 0; step < KINDS && owner >= 0 && bodyAt(owner, voice) == 0; step++) {
                owner = above(owner);
            }
            if (owner < 0 || parted || depth >= DEEPEST) {
                return 0;
            }
            int number = bodyAt(owner, voice);
            begin(number);
            return number < 20 ? dreamBody(number, x, depth + 1) : ownBody(number, above(owner), x, depth + 1);
        }

        private static int bodyAt(int kind, int voice) {
            int place = kind * VOICES + voice;
            return place >= 0 && place < BODY_OF.length ? BODY_OF[place] : 0;
        }

        private void begin(int number) {
            if (length < BODIES) {
                trace[length] = number;
                length++;
            }
        }

        private int dreamBody(int number, int x, int depth) {
            switch (number) {
                case 10:
                    return x + k;
                case 11:
                    return utter(MUTTERS, kind, x, depth) * 2;
                case 12:
                    return utter(SIGHS, kind, x, depth) - m;
                default:
                    int by = m - k;
                    parted = by == 0;
                    return by == 0 ? 0 : x / by;
            }
        }

        private int ownBody(int number, int above, int x, int depth) {
            switch (number) {
                case 20:
                    return utter(MUTTERS, above, x, depth) - 4;
                case 21:
                    return utter(PARTS, above, x, depth) + utter(SIGHS, kind, 1, depth);
                case 30:
                    return 0 - utter(SIGHS, above, x, depth);
                case 40:
                    return utter(SNORES, above, x / 2, depth);
                case 50:
                    return utter(MUTTERS, above, x, depth) * 3;
                case 51:
                    return utter(SNORES, above, x, depth) ^ k;
                case 60:
                    return utter(SIGHS, above, x + 1, depth);
                case 70:
                    return 9;
                default:
                    return utter(SIGHS, above, x, depth) + m;
            }
        }
    }

    /** One SHEET; of 0 bits it is missing. */
    private static final class Sheet {
        int bits;
        int length;
        final int[] numbers = new int[NUMBERS];

        void renew(int newBits, int n) {
            bits = newBits;
            length = n;
            for (int i = 0; i < NUMBERS; i++) {
                numbers[i] = 0;
            }
        }

        void write(int i, int v) {
            if (bits == 8) {
                numbers[i] = (byte) v;
            } else if (bits == 16) {
                numbers[i] = (short) v;
            } else {
                numbers[i] = v;
            }
        }

        boolean holds(int i, int n) {
            return n >= 0 && i >= 0 && n <= length && i <= length - n;
        }
    }
}
