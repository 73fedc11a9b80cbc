import java.util.ArrayList;
import java.util.Arrays;
import java.util.List;

/** The document once more, by brute force and without care for time, to hold the program against. */
final class PlainModel {
    /** An ERROR on its way out. */
    private static final class Refused extends RuntimeException {
        private static final long serialVersionUID = 1L;
        final int k;

        Refused(int k) {
            super(null, null, false, false);
            this.k = k;
        }
    }

    /** What an IMAGE keeps. A dream is kind, m, matter, bids, day, forgotten; a person wont, fined. */
    private static final class Kept {
        int hour = 0;
        int sleep = 22;
        int z = 1;
        List<int[]> dreams = new ArrayList<>();
        List<int[]> people = new ArrayList<>();
        String[] texts = new String[2];
        String tape = "";
        List<Integer> waiting = new ArrayList<>();

        Kept copy() {
            Kept k = new Kept();
            k.hour = hour;
            k.sleep = sleep;
            k.z = z;
            for (int[] d : dreams) {
                k.dreams.add(d.clone());
            }
            for (int[] p : people) {
                k.people.add(p.clone());
            }
            k.texts = texts.clone();
            k.tape = tape;
            k.waiting = new ArrayList<>(waiting);
            return k;
        }
    }

    private Kept s = new Kept();
    private Kept image = null;
    private int images = 0;
    private final int[][] sheets = new int[4][];
    private final int[] bits = new int[4];
    private List<Integer> trace = new ArrayList<>();
    private final int[] told = new int[7];

    /** The call of a name, by its arguments. */
    int call(String name, long[] a) {
        try {
            return act(name, a);
        } catch (Refused r) {
            told[r.k]++;
            return -1000000000 - r.k;
        }
    }

    private static void ask(boolean fine, int k) {
        if (!fine) {
            throw new Refused(k);
        }
    }

    private static void in(long v, long least, long most) {
        ask(least <= v && v <= most, 1);
    }

    private int[] dreamOf(long i) {
        in(i, 0, s.dreams.size() - 1);
        return s.dreams.get((int) i);
    }

    private int[] personOf(long i) {
        in(i, 0, s.people.size() - 1);
        return s.people.get((int) i);
    }

    private int act(String name, long[] a) {
        int i0 = a.length > 0 ? (int) a[0] : 0;
        int i1 = a.length > 1 ? (int) a[1] : 0;
        int i2 = a.length > 2 ? (int) a[2] : 0;
        int i3 = a.length > 3 ? (int) a[3] : 0;
        int i4 = a.length > 4 ? (int) a[4] : 0;
        return switch (name) {
            case "dream" -> dream(i0, i1, i2);
            case "dreamIs" -> dreamIs(dreamOf(i0), i1);
            case "become" -> become(dreamOf(i0), i1);
            case "as" -> as(dreamOf(i0), i1);
            case "forgets" -> forgets(dreamOf(i0), i1);
            case "person" -> person(i0);
            case "personIs" -> personIs(i0, i1);
            case "takesTo" -> takesTo(personOf(i0), i1);
            case "clock" -> clock(i0, i1);
            case "feed" -> feed(a[0], i1);
            case "text" -> text(i0);
            case "untell" -> untell(i0);
            case "law" -> law(i0, i1, i2, i3);
            case "hours" -> hours(i0);
            case "loose" -> loose(i0);
            case "seed" -> seed(i0);
            case "rule" -> rule(i0, i1);
            case "now" -> now(i0);
            case "then" -> then(i0, i1);
            case "first" -> first(i0, i1);
            case "siestas" -> siestas(i0);
            case "best" -> best(i0, i1);
            case "fewest" -> fewest(i0, i1, i2);
            case "odds" -> odds(i0, i1, i2);
            case "fits" -> fits(i0);
            case "voice" -> voice(i0, i1, i2);
            case "body" -> body(i0);
            case "sheet" -> sheet(i0, i1, i2);
            case "put" -> put(i0, i1, i2);
            case "move" -> move(i0, i1, i2, i3, i4);
            case "wonts" -> wonts(i0);
            case "judge" -> judge(i0);
            case "image" -> {
                image = s.copy();
                yield ++images;
            }
            case "restore" -> {
                ask(image != null, 2);
                s = image.copy();
                yield s.hour;
            }
            case "tell" -> {
                ask(s.waiting.size() < 24, 4);
                s.waiting.add(i0);
                yield s.waiting.size();
            }
            case "check" -> check();
            case "count" -> count(i0);
            case "told" -> {
                in(i0, 1, 6);
                yield told[i0];
            }
            default -> throw new IllegalStateException(name);
        };
    }

    private int dream(int km, int mb, int day) {
        in(km, 0, 69);
        in(mb, 0, 99);
        in(mb % 10, 0, 1);
        in(day, 0, 99);
        ask(s.dreams.size() < 9, 4);
        s.dreams.add(new int[] {km / 10, km % 10, mb / 10, mb % 10, day, 0});
        return s.dreams.size() - 1;
    }

    private int dreamIs(int[] d, int what) {
        in(what, 0, 7);
        if (what == 6) {
            return inForce(d, s.hour) ? 1 : 0;
        }
        return what == 7 ? weight(d, s.hour) : d[what];
    }

    private int become(int[] d, int km) {
        in(km, 0, 69);
        int was = d[0];
        d[0] = km / 10;
        d[1] = km % 10;
        return was;
    }

    private static boolean under(int kind, int top) {
        if (kind == top || top == 0) {
            return true;
        }
        return kind == 4 && top == 1 || kind == 5 && top == 2;
    }

    private int as(int[] d, int kind) {
        in(kind, 0, 6);
        ask(under(d[0], kind), 5);
        return d[1];
    }

    private int forgets(int[] d, int is) {
        in(is, 0, 1);
        int was = d[5];
        d[5] = is;
        return was;
    }

    private int person(int wont) {
        in(wont, 0, 1023);
        ask(s.people.size() < 6, 4);
        s.people.add(new int[] {wont, 0});
        return s.people.size() - 1;
    }

    private int personIs(int p, int what) {
        int[] it = personOf(p);
        in(what, 0, 3);
        if (what == 2) {
            return guilt(it[0], s.hour);
        }
        return what == 3 ? fine(p, s.hour) : it[what];
    }

    private int takesTo(int[] p, int wont) {
        in(wont, 0, 1023);
        int was = p[0];
        p[0] = wont;
        return was;
    }

    private int clock(int what, int v) {
        in(what, 0, 1);
        int was = what == 0 ? s.hour : s.sleep;
        if (what == 0) {
            in(v, 0, 9999);
            s.hour = v;
        } else {
            in(v, 13, 24);
            s.sleep = v;
        }
        return was;
    }

    // IN FORCE, WEIGHT, UNDER

    private boolean inForce(int[] d, int h) {
        int x = h / 24 - d[4];
        int y = h % 24;
        int m = d[1];
        boolean day = 12 <= y && y < s.sleep;
        boolean dream = x == 0 && day;
        boolean nightmare = dream && y < s.sleep - m;
        boolean nap = x == 0 && 14 <= y && y < 14 + m;
        boolean[] byKind = {
            dream,
            nightmare,
            nap,
            x >= 0 && x / (m + 1) * (m + 1) == x && day,
            nightmare || x == 0 && y < 12 && y >= 12 - m,
            nap || x == 1 && y < m,
            dream && m == 9};
        return d[5] == 0 && byKind[d[0]];
    }

    private int weight(int[] d, int h) {
        return law(1, d[0], d[1], h / 24 - d[4]);
    }

    private int rule(int matter, int h, int without) {
        List<Integer> bid = new ArrayList<>();
        List<Integer> ban = new ArrayList<>();
        for (int i = 0; i < s.dreams.size(); i++) {
            int[] d = s.dreams.get(i);
            if ((without >> i & 1) == 0 && d[2] == matter && inForce(d, h)) {
                (d[3] == 1 ? bid : ban).add(weight(d, h));
            }
        }
        bid.sort(null);
        ban.sort(null);
        if (bid.isEmpty() && ban.isEmpty()) {
            return -1;
        }
        if (bid.isEmpty()) {
            return 0;
        }
        if (ban.isEmpty()) {
            return 1;
        }
        int by = bid.get(bid.size() - 1) - ban.get(ban.size() - 1);
        return by > 0 ? 1 : by < 0 ? 0 : -1;
    }

    private int disputes(int h) {
        int n = 0;
        for (int matter = 0; matter < 10; matter++) {
            boolean[] side = new boolean[2];
            for (int[] d : s.dreams) {
                side[d[3]] |= d[2] == matter && inForce(d, h);
            }
            n += side[0] && side[1] ? 1 : 0;
        }
        return n;
    }

    private int[] rulesAt(int h) {
        int[] rules = new int[10];
        for (int matter = 0; matter < 10; matter++) {
            rules[matter] = rule(matter, h, 0);
        }
        return rules;
    }

    private static int guiltUnder(int[] rules, int wont) {
        int n = 0;
        for (int matter = 0; matter < 10; matter++) {
            boolean does = (wont >> matter & 1) == 1;
            n += rules[matter] == 0 && does || rules[matter] == 1 && !does ? 1 : 0;
        }
        return n;
    }

    private int guilt(int wont, int h) {
        return guiltUnder(rulesAt(h), wont);
    }

    private int fine(int p, int h) {
        return law(0, guilt(s.people.get(p)[0], h), h % 24, p);
    }

    // TEXTS

    private int feed(long word, int n) {
        in(n, 1, 8);
        ask(s.tape.length() + n <= 60, 4);
        StringBuilder b = new StringBuilder(s.tape);
        for (int i = 0; i < n; i++) {
            b.append((char) (word >> 8 * i & 255));
        }
        s.tape = b.toString();
        return s.tape.length();
    }

    private int text(int use) {
        in(use, 0, 1);
        String it = s.tape;
        s.tape = "";
        int fault = fault(it, use == 0 ? "ghn" : "kmd");
        if (fault >= 0) {
            return -10 - fault;
        }
        s.texts[use] = it;
        return 1;
    }

    /** Sign by sign, with the open ones on a stack: -1, or the place of the FAULT. */
    private static int fault(String t, String names) {
        StringBuilder open = new StringBuilder();
        List<Boolean> compared = new ArrayList<>(List.of(false));
        boolean wantsOne = true;
        int digits = 0;
        for (int i = 0; i < t.length(); i++) {
            char c = t.charAt(i);
            int last = compared.size() - 1;
            boolean digit = c >= '0' && c <= '9';
            if (digit && digits > 0 && digits < 4) {
                digits++;
                continue;
            }
            digits = 0;
            if (wantsOne) {
                if (digit || names.indexOf(c) >= 0) {
                    digits = digit ? 1 : 0;
                    wantsOne = false;
                    closeNots(open);
                } else if ((c == '!' || c == '(') && open.length() < 5) {
                    open.append(c);
                    if (c == '(') {
                        compared.add(false);
                    }
                } else {
                    return i;
                }
            } else if ("|&".indexOf(c) >= 0) {
                compared.set(last, false);
                wantsOne = true;
            } else if ("<=>".indexOf(c) >= 0 && !compared.get(last)) {
                compared.set(last, true);
                wantsOne = true;
            } else if ("+-*/%".indexOf(c) >= 0) {
                wantsOne = true;
            } else if (c == ')' && last > 0) {
                compared.remove(last);
                open.setLength(open.length() - 1);
                closeNots(open);
            } else {
                return i;
            }
        }
        return wantsOne || compared.size() > 1 ? t.length() : -1;
    }

    private static void closeNots(StringBuilder open) {
        while (open.length() > 0 && open.charAt(open.length() - 1) == '!') {
            open.setLength(open.length() - 1);
        }
    }

    private static int value(String t, String names, int[] v) {
        for (String signs : new String[] {"|", "&", "<=>", "+-", "*/%"}) {
            int deep = 0;
            for (int i = t.length() - 1; i > 0; i--) {
                char c = t.charAt(i);
                deep += c == ')' ? 1 : c == '(' ? -1 : 0;
                if (deep == 0 && signs.indexOf(c) >= 0) {
                    int l = value(t.substring(0, i), names, v);
                    int r = value(t.substring(i + 1), names, v);
                    return join(c, l, r);
                }
            }
        }
        char c = t.charAt(0);
        if (c == '!') {
            return value(t.substring(1), names, v) == 0 ? 1 : 0;
        }
        if (c == '(') {
            return value(t.substring(1, t.length() - 1), names, v);
        }
        int name = names.indexOf(c);
        return name >= 0 ? v[name] : Integer.parseInt(t);
    }

    private static int join(char c, int l, int r) {
        return switch (c) {
            case '|' -> (l | r) != 0 ? 1 : 0;
            case '&' -> l != 0 && r != 0 ? 1 : 0;
            case '<' -> l < r ? 1 : 0;
            case '=' -> l == r ? 1 : 0;
            case '>' -> l > r ? 1 : 0;
            case '+' -> (int) ((long) l + r);
            case '-' -> (int) ((long) l - r);
            case '*' -> (int) ((long) l * r);
            case '/' -> r == 0 ? 0 : (int) ((long) l / r);
            case '%' -> r == 0 ? 0 : (int) ((long) l % r);
            default -> throw new IllegalStateException("" + c);
        };
    }

    private int untell(int use) {
        in(use, 0, 1);
        int was = s.texts[use] == null ? 0 : 1;
        s.texts[use] = null;
        return was;
    }

    private int law(int use, int a, int b, int c) {
        in(use, 0, 1);
        int[] v = {a, b, c};
        String t = s.texts[use];
        if (use == 0) {
            int g = t == null ? a : value(t, "ghn", v);
            return g < 0 ? 0 : g > 99 ? 99 : g;
        }
        if (t == null) {
            return b;
        }
        int w = value(t, "kmd", v);
        return w < -99 ? -99 : w > 99 ? 99 : w;
    }

    // hours

    private void anHour() {
        int[] fines = new int[s.people.size()];
        for (int p = 0; p < fines.length; p++) {
            fines[p] = fine(p, s.hour);
        }
        for (int p = 0; p < fines.length; p++) {
            s.people.get(p)[1] = Math.min(9999, s.people.get(p)[1] + fines[p]);
        }
        s.hour++;
    }

    private int hours(int n) {
        in(n, 1, 240);
        ask(s.hour + n <= 9999, 3);
        for (int i = 0; i < n; i++) {
            anHour();
        }
        return s.hour;
    }

    private int draw() {
        s.z = (int) (s.z * 1103515245L + 12345L);
        return (int) ((s.z & 0xffffffffL) / 256);
    }

    private int loose(int n) {
        in(n, 1, 48);
        ask(s.hour + n <= 9999, 3);
        for (int i = 0; i < n; i++) {
            int next = s.hour / 24 + 1;
            if (s.hour % 24 == s.sleep % 24 && s.dreams.size() < 9 && next <= 99) {
                int kind = draw() % 7;
                int matter = draw() % 10;
                int rest = draw() % 20;
                s.dreams.add(new int[] {kind, rest / 2, matter, rest % 2, next, 0});
            }
            anHour();
        }
        return s.dreams.size();
    }

    private int seed(int v) {
        int was = s.z;
        s.z = v;
        return was;
    }

    // what is, what would be

    private int rule(int matter, int n) {
        in(matter, 0, 9);
        in(n, 0, 240);
        return rule(matter, s.hour + n, 0);
    }

    private int now(int what) {
        in(what, 0, 3);
        if (what == 3) {
            return disputes(s.hour);
        }
        int set = 0;
        if (what == 0) {
            for (int i = 0; i < s.dreams.size(); i++) {
                set += inForce(s.dreams.get(i), s.hour) ? 1 << i : 0;
            }
            return set;
        }
        for (int matter = 0; matter < 10; matter++) {
            set += rule(matter, s.hour, 0) == 2 - what ? 1 << matter : 0;
        }
        return set;
    }

    private int then(int person, int n) {
        personOf(person);
        in(n, 0, 240);
        Kept real = s;
        s = real.copy();
        for (int i = 0; i < n; i++) {
            anHour();
        }
        int fined = s.people.get(person)[1];
        s = real;
        return fined;
    }

    private int first(int matter, int rule) {
        in(matter, 0, 9);
        in(rule, -1, 1);
        int n = 0;
        while (n <= 240 && rule(matter, s.hour + n, 0) != rule) {
            n++;
        }
        ask(n <= 240, 2);
        return n;
    }

    private int siestas(int n) {
        in(n, 0, 240);
        int found = 0;
        for (int i = 0; i < n; i++) {
            found += disputes(s.hour + i) > 0 ? 1 : 0;
        }
        return found;
    }

    private int best(int n, int what) {
        in(n, 0, 240);
        in(what, 0, 1);
        int[] guilts = new int[1024];
        for (int i = 0; i < n; i++) {
            int[] rules = rulesAt(s.hour + i);
            for (int wont = 0; wont < 1024; wont++) {
                guilts[wont] += guiltUnder(rules, wont);
            }
        }
        int best = 0;
        for (int wont = 1; wont < 1024; wont++) {
            if (guilts[wont] < guilts[best]) {
                best = wont;
            }
        }
        return what == 0 ? best : guilts[best];
    }

    private int fewest(int matter, int n, int what) {
        in(matter, 0, 9);
        in(n, 1, 240);
        in(what, 0, 1);
        for (int many = 0; many <= 9; many++) {
            for (int set = 0; set < 1 << s.dreams.size(); set++) {
                if (Integer.bitCount(set) == many && staysFree(matter, n, set)) {
                    return what == 0 ? many : set;
                }
            }
        }
        throw new IllegalStateException();
    }

    private boolean staysFree(int matter, int n, int set) {
        for (int i = 0; i < n; i++) {
            if (rule(matter, s.hour + i, set) != -1) {
                return false;
            }
        }
        return true;
    }

    private int odds(int matter, int rule, int part) {
        in(matter, 0, 9);
        in(rule, -1, 1);
        in(part, 0, 1);
        int n = 0;
        for (int i = 0; i < 48; i++) {
            n += rule(matter, s.hour + i, 0) == rule ? 1 : 0;
        }
        int under = 1;
        while (n * under % 48 != 0) {
            under++;
        }
        return part == 0 ? n * under / 48 : under;
    }

    private int fits(int sheet) {
        int[] it = standing(sheet);
        ask(it.length <= 10, 2);
        for (int i = 0; i <= 240; i++) {
            if (Arrays.equals(it, Arrays.copyOf(rulesAt(s.hour + i), it.length))) {
                return i;
            }
        }
        throw new Refused(2);
    }

    // voices

    private int voice(int dream, int voice, int x) {
        int[] d = dreamOf(dream);
        in(voice, 0, 3);
        trace = new ArrayList<>();
        Plain p = switch (d[0]) {
            case 0 -> new Plain();
            case 1 -> new Nightmare();
            case 2 -> new Nap();
            case 3 -> new Recurring();
            case 4 -> new Falling();
            case 5 -> new Doze();
            default -> new Blank();
        };
        p.k = dream;
        p.m = d[1];
        return switch (voice) {
            case 0 -> p.mutters(x);
            case 1 -> p.sighs(x);
            case 2 -> p.snores(x);
            default -> p.parts(x);
        };
    }

    private class Plain {
        int k;
        int m;

        int mutters(int x) {
            trace.add(10);
            return x + k;
        }

        int sighs(int x) {
            trace.add(11);
            return mutters(x) * 2;
        }

        int snores(int x) {
            trace.add(12);
            return sighs(x) - m;
        }

        int parts(int x) {
            trace.add(13);
            ask(m != k, 6);
            return x / (m - k);
        }
    }

    private class Nightmare extends Plain {
        @Override
        int mutters(int x) {
            trace.add(20);
            return super.mutters(x) - 4;
        }

        @Override
        int parts(int x) {
            trace.add(21);
            return super.parts(x) + sighs(1);
        }
    }

    private class Nap extends Plain {
        @Override
        int sighs(int x) {
            trace.add(30);
            return 0 - super.sighs(x);
        }
    }

    private class Recurring extends Plain {
        @Override
        int snores(int x) {
            trace.add(40);
            return super.snores(x / 2);
        }
    }

    private class Falling extends Nightmare {
        @Override
        int mutters(int x) {
            trace.add(50);
            return super.mutters(x) * 3;
        }

        @Override
        int snores(int x) {
            trace.add(51);
            return super.snores(x) ^ k;
        }
    }

    private class Doze extends Nap {
        @Override
        int sighs(int x) {
            trace.add(60);
            return super.sighs(x + 1);
        }
    }

    private class Blank extends Plain {
        @Override
        int mutters(int x) {
            trace.add(70);
            return 9;
        }

        @Override
        int sighs(int x) {
            trace.add(71);
            return super.sighs(x) + m;
        }
    }

    private int body(int i) {
        ask(i >= 0 && i < trace.size() && i < 30, 2);
        return trace.get(i);
    }

    // sheets

    private int sheet(int sheet, int width, int n) {
        in(sheet, 0, 3);
        ask(width == 0 || width == 8 || width == 16 || width == 32, 1);
        if (width == 0) {
            sheets[sheet] = null;
            return 1;
        }
        ask(n >= 0, 3);
        in(n, 0, 24);
        sheets[sheet] = new int[n];
        bits[sheet] = width;
        return 1;
    }

    private int[] standing(int sheet) {
        in(sheet, 0, 3);
        ask(sheets[sheet] != null, 2);
        return sheets[sheet];
    }

    private int put(int sheet, int i, int v) {
        int[] it = standing(sheet);
        in(i, 0, it.length - 1);
        it[i] = v << 32 - bits[sheet] >> 32 - bits[sheet];
        return 1;
    }

    private int move(int sheet, int i, int other, int j, int n) {
        in(sheet, 0, 3);
        in(other, 0, 3);
        int[] from = standing(sheet);
        int[] to = standing(other);
        ask(bits[sheet] == bits[other], 5);
        in(n, 0, 24);
        in(i, 0, from.length - n);
        in(j, 0, to.length - n);
        int[] as = from.clone();
        for (int l = 0; l < n; l++) {
            to[j + l] = as[i + l];
        }
        return n;
    }

    private int wonts(int sheet) {
        int[] it = standing(sheet);
        for (int i = 0; i < it.length; i++) {
            if (it[i] < 0 || it[i] > 1023 || i >= s.people.size()) {
                return i;
            }
            s.people.get(i)[0] = it[i];
        }
        return it.length;
    }

    private int judge(int sheet) {
        int[] it = standing(sheet);
        for (int i = 0; i < it.length; i++) {
            if (i >= 10 || it[i] != rule(i, s.hour, 0)) {
                return i;
            }
        }
        return it.length;
    }

    private int check() {
        List<Integer> told = s.waiting;
        s.waiting = new ArrayList<>();
        for (int i = 0; i < told.size(); i++) {
            if (i >= s.people.size() || s.people.get(i)[1] != told.get(i)) {
                return 1 + i;
            }
        }
        return 0;
    }

    private int count(int what) {
        in(what, 0, 7);
        int[] all = {s.dreams.size(), s.people.size(), s.hour, s.sleep, s.tape.length(), s.waiting.size(),
            Math.min(30, trace.size()), s.z};
        return all[what];
    }
}
